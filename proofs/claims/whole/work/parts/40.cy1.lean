def rm_X7_in : Jvm.Room := { frames := 0, cells := 0, slots := 0, locals := 0 }
set_option maxHeartbeats 4000000 in
set_option maxRecDepth 100000 in
theorem c_X7_in (l : Launch) (E : xE) (B : Nat) {x0 : Int32} {x1 : Int32} {x2 : Int32} {σ : xM} {q : Int32 × xM}  (h : F_X7_in x0 x1 x2 σ = some q) : Met l yX7_in (Cond.code yX7_in cX7_in 3 (some .boolean) :: AL) rm_X7_in (xP E B 7 (layY E B) [.int x0, .int x1, .int x2] σ) (xQ E B 7 (layY E B) (some (.int (bz q.1))) q.2) 0 0 (wA B 7) := by
  refine x_met (plainFor_of_name (by decide +kernel)) (Nat.le_of_ble_eq_true rfl) rfl ?_
  intro p e s m below meth c ls CX hr hlk hM hl
  have hx := CX.1.1
  have hb := CX.1.2.1
  unfold F_X7_in at h
  refine lv_iload_n hx hb dX7_in_0 rfl (lv_at hl 0 rfl) ?_
  refine lv_iload_n hx hb dX7_in_1 rfl (lv_at hl 1 rfl) ?_
  refine lv_icmp_lt (tgt := 14) hx hb dX7_in_2 (by decide) (fun c1 => ?_) (fun c1 => ?_)
  · replace h := it_h c1 h
    refine lv_iconst (v := 0) hx hb dX7_in_14 (by decide) ?_
    obtain rfl := Option.some.inj h
    exact x_zret (y := 0) CX hr hlk hM rfl rfl dX7_in_15
  · replace h := if_h c1 h
    refine lv_iload_n hx hb dX7_in_5 rfl (lv_at hl 0 rfl) ?_
    refine lv_iload_n hx hb dX7_in_6 rfl (lv_at hl 2 rfl) ?_
    refine lv_icmp_gt (tgt := 14) hx hb dX7_in_7 (by decide) (fun c2 => ?_) (fun c2 => ?_)
    · replace h := it_h c2 h
      refine lv_iconst (v := 0) hx hb dX7_in_14 (by decide) ?_
      obtain rfl := Option.some.inj h
      exact x_zret (y := 0) CX hr hlk hM rfl rfl dX7_in_15
    · replace h := if_h c2 h
      refine lv_iconst (v := 1) hx hb dX7_in_10 (by decide) ?_
      refine lv_goto (tgt := 15) hx hb dX7_in_11 (by decide) ?_
      obtain rfl := Option.some.inj h
      exact x_zret (y := 1) CX hr hlk hM rfl rfl dX7_in_15
def rm_X7_notes : Jvm.Room := { frames := 0, cells := 0, slots := 0, locals := 0 }
set_option maxHeartbeats 4000000 in
set_option maxRecDepth 100000 in
theorem c_X7_notes (l : Launch) (E : xE) (B : Nat) {k : Nat} {σ : xM} {q : Unit × xM} (hk_k : kdY k = 7) (h : F_X7_notes k σ = some q) : Met l yX7_notes (Cond.code yX7_notes cX7_notes 2 none :: AL) rm_X7_notes (xP E B 7 (layY E B) [.ref (B + k)] σ) (xQ E B 7 (layY E B) none q.2) 0 0 (wA B 7) := by
  refine x_met (plainFor_of_name (by decide +kernel)) (Nat.le_of_ble_eq_true rfl) rfl ?_
  intro p e s m below meth c ls CX hr hlk hM hl
  have hx := CX.1.1
  have hb := CX.1.2.1
  unfold F_X7_notes at h
  have L52 : ∀ (N : Nat) (v1 : Int32) (σ : xM), ∀ (H : Heap) (locs : List Loc) (ls : Array Slot), xS E B 7 (layY E B) s σ H locs → lv_has ls 2 [(0, .ref (B + k)), (1, .int v1)] → F_X7_notes_L52 k N v1 σ = some q → W p l e rm_X7_notes s m ([.ref (B + k)] : List Value).toArray below meth c H locs 0 0 (MQ below (xQ E B 7 (layY E B) none q.2) ([.ref (B + k)] : List Value).toArray s 0 0 (wA B 7)) (F0 m 52 ls []) := by
    clear hM hl h
    intro N
    induction N with
    | zero =>
      intro v1 σ  H locs ls hM hl h
      cases h
    | succ N ih =>
      intro v1 σ  H locs ls hM hl h
      rw [F_X7_notes_L52] at h
      refine lv_iload_n hx hb dX7_notes_52 rfl (lv_at hl 1 rfl) ?_
      refine lv_sipush (v := 196) hx hb dX7_notes_53 (by decide) ?_
      refine lv_icmp_ge (tgt := 86) hx hb dX7_notes_56 (by decide) (fun c2 => ?_) (fun c2 => ?_)
      · replace h := it_h c2 h
        refine lv_aload_n hx hb dX7_notes_86 rfl (lv_at hl 0 rfl) ?_
        refine lv_dup hx hb dX7_notes_87 rfl ?_
        refine g7_2 CX hM hk_k wf_X7_30 dX7_notes_88 ?_
        refine lv_iconst (v := 1) hx hb dX7_notes_91 (by decide) ?_
        refine lv_iadd hx hb dX7_notes_92 ?_
        refine p7_2 (y := ((σ k 2) + 1)) CX hM hk_k wf_X7_30 dX7_notes_93 (fun H locs σ3 eσ3 hM => ?_)
        replace h := nm_h eσ3 h
        obtain rfl := Option.some.inj h
        exact x_vret CX hr hlk hM rfl dX7_notes_96
      · replace h := if_h c2 h
        refine lv_aload_n hx hb dX7_notes_59 rfl (lv_at hl 0 rfl) ?_
        refine g7_1 CX hM hk_k wf_X7_13 dX7_notes_60 ?_
        refine lv_sipush (v := 196) hx hb dX7_notes_63 (by decide) ?_
        refine lv_aload_n hx hb dX7_notes_66 rfl (lv_at hl 0 rfl) ?_
        refine g7_2 CX hM hk_k wf_X7_30 dX7_notes_67 ?_
        refine lv_imul hx hb dX7_notes_70 ?_
        refine lv_iload_n hx hb dX7_notes_71 rfl (lv_at hl 1 rfl) ?_
        refine lv_iadd hx hb dX7_notes_72 ?_
        refine lv_aload_n hx hb dX7_notes_73 rfl (lv_at hl 0 rfl) ?_
        refine g7_0 CX hM hk_k wf_X7_7 dX7_notes_74 ?_
        refine lv_iload_n hx hb dX7_notes_77 rfl (lv_at hl 1 rfl) ?_
        obtain ⟨g4, h⟩ := ck_h h
        refine x_iald CX hM (kdYl (kd7_f hk_k).1 rfl) (ly20 (kd7_f hk_k).1 _) g4 dX7_notes_78 ?_
        obtain ⟨g5, h⟩ := ck_h h
        refine x_iast CX hM (kdYl (kd7_f hk_k).2.1 rfl) (fun f => ly21 (kd7_f hk_k).2.1 f) g5 dX7_notes_79 (fun H locs σ6 eσ6 hM => ?_)
        replace h := nm_h eσ6 h
        refine lv_iinc (v := (v1 + 1)) (lv' := [(1, .int (v1 + 1)), (0, .ref (B + k))]) hx hb dX7_notes_80 hl (k := 1) rfl rfl (by decide) rfl (fun ls hl => ?_)
        refine lv_goto (tgt := 52) hx hb dX7_notes_83 (by decide) ?_
        exact ih _ _  _ _ _ hM (lv_sub hl [1, 0] rfl) h
  have J50 : ∀ (σ : xM), ∀ (H : Heap) (locs : List Loc) (ls : Array Slot), xS E B 7 (layY E B) s σ H locs → lv_has ls 2 [(0, .ref (B + k))] → F_X7_notes_J50 k  σ = some q → W p l e rm_X7_notes s m ([.ref (B + k)] : List Value).toArray below meth c H locs 0 0 (MQ below (xQ E B 7 (layY E B) none q.2) ([.ref (B + k)] : List Value).toArray s 0 0 (wA B 7)) (F0 m 50 ls []) := by
    clear hM hl h
    intro  σ  H locs ls hM hl h
    unfold F_X7_notes_J50 at h
    refine lv_iconst (v := 0) hx hb dX7_notes_50 (by decide) ?_
    refine lv_istore_n (lv' := [(1, .int 0), (0, .ref (B + k))]) hx hb dX7_notes_51 rfl hl (by decide) rfl (fun ls hl => ?_)
    exact L52 _ _ _  _ _ _ hM (lv_sub hl [1, 0] rfl) h
  have L11 : ∀ (N : Nat) (v1 : Int32) (σ : xM), ∀ (H : Heap) (locs : List Loc) (ls : Array Slot), xS E B 7 (layY E B) s σ H locs → lv_has ls 2 [(0, .ref (B + k)), (1, .int v1)] → F_X7_notes_L11 k N v1 σ = some q → W p l e rm_X7_notes s m ([.ref (B + k)] : List Value).toArray below meth c H locs 0 0 (MQ below (xQ E B 7 (layY E B) none q.2) ([.ref (B + k)] : List Value).toArray s 0 0 (wA B 7)) (F0 m 11 ls []) := by
    clear hM hl h
    intro N
    induction N with
    | zero =>
      intro v1 σ  H locs ls hM hl h
      cases h
    | succ N ih =>
      intro v1 σ  H locs ls hM hl h
      rw [F_X7_notes_L11] at h
      refine lv_iload_n hx hb dX7_notes_11 rfl (lv_at hl 1 rfl) ?_
      refine lv_sipush (v := 980) hx hb dX7_notes_12 (by decide) ?_
      refine lv_icmp_ge (tgt := 40) hx hb dX7_notes_15 (by decide) (fun c7 => ?_) (fun c7 => ?_)
      · replace h := it_h c7 h
        refine lv_aload_n hx hb dX7_notes_40 rfl (lv_at hl 0 rfl) ?_
        refine lv_dup hx hb dX7_notes_41 rfl ?_
        refine g7_2 CX hM hk_k wf_X7_30 dX7_notes_42 ?_
        refine lv_iconst (v := 1) hx hb dX7_notes_45 (by decide) ?_
        refine lv_isub hx hb dX7_notes_46 ?_
        refine p7_2 (y := ((σ k 2) - 1)) CX hM hk_k wf_X7_30 dX7_notes_47 (fun H locs σ8 eσ8 hM => ?_)
        replace h := nm_h eσ8 h
        exact J50 _  _ _ _ hM (lv_sub hl [0] rfl) h
      · replace h := if_h c7 h
        refine lv_aload_n hx hb dX7_notes_18 rfl (lv_at hl 0 rfl) ?_
        refine g7_1 CX hM hk_k wf_X7_13 dX7_notes_19 ?_
        refine lv_iload_n hx hb dX7_notes_22 rfl (lv_at hl 1 rfl) ?_
        refine lv_aload_n hx hb dX7_notes_23 rfl (lv_at hl 0 rfl) ?_
        refine g7_1 CX hM hk_k wf_X7_13 dX7_notes_24 ?_
        refine lv_iload_n hx hb dX7_notes_27 rfl (lv_at hl 1 rfl) ?_
        refine lv_sipush (v := 196) hx hb dX7_notes_28 (by decide) ?_
        refine lv_iadd hx hb dX7_notes_31 ?_
        obtain ⟨g9, h⟩ := ck_h h
        refine x_iald CX hM (kdYl (kd7_f hk_k).2.1 rfl) (ly21 (kd7_f hk_k).2.1 _) g9 dX7_notes_32 ?_
        obtain ⟨g10, h⟩ := ck_h h
        refine x_iast CX hM (kdYl (kd7_f hk_k).2.1 rfl) (fun f => ly21 (kd7_f hk_k).2.1 f) g10 dX7_notes_33 (fun H locs σ11 eσ11 hM => ?_)
        replace h := nm_h eσ11 h
        refine lv_iinc (v := (v1 + 1)) (lv' := [(1, .int (v1 + 1)), (0, .ref (B + k))]) hx hb dX7_notes_34 hl (k := 1) rfl rfl (by decide) rfl (fun ls hl => ?_)
        refine lv_goto (tgt := 11) hx hb dX7_notes_37 (by decide) ?_
        exact ih _ _  _ _ _ hM (lv_sub hl [1, 0] rfl) h
  refine lv_aload_n hx hb dX7_notes_0 rfl (lv_at hl 0 rfl) ?_
  refine g7_2 CX hM hk_k wf_X7_30 dX7_notes_1 ?_
  refine lv_bipush (v := 6) hx hb dX7_notes_4 (by decide) ?_
  refine lv_icmp_ne (tgt := 50) hx hb dX7_notes_6 (by decide) (fun c1 => ?_) (fun c1 => ?_)
  · replace h := if_h c1 h
    exact J50 _  _ _ _ hM (lv_sub hl [0] rfl) h
  · replace h := it_h c1 h
    refine lv_iconst (v := 0) hx hb dX7_notes_9 (by decide) ?_
    refine lv_istore_n (lv' := [(1, .int 0), (0, .ref (B + k))]) hx hb dX7_notes_10 rfl hl (by decide) rfl (fun ls hl => ?_)
    exact L11 _ _ _  _ _ _ hM (lv_sub hl [1, 0] rfl) h
def rm_X7_undo : Jvm.Room := { frames := 0, cells := 0, slots := 0, locals := 0 }
set_option maxHeartbeats 4000000 in
set_option maxRecDepth 100000 in
theorem c_X7_undo (l : Launch) (E : xE) (B : Nat) {k : Nat} {σ : xM} {q : Int32 × xM} (hk_k : kdY k = 7) (h : F_X7_undo k σ = some q) : Met l yX7_undo (Cond.code yX7_undo cX7_undo 2 (some .int) :: AL) rm_X7_undo (xP E B 7 (layY E B) [.ref (B + k)] σ) (xQ E B 7 (layY E B) (some (.int q.1)) q.2) 0 0 (wA B 7) := by
  refine x_met (plainFor_of_name (by decide +kernel)) (Nat.le_of_ble_eq_true rfl) rfl ?_
  intro p e s m below meth c ls CX hr hlk hM hl
  have hx := CX.1.1
  have hb := CX.1.2.1
  unfold F_X7_undo at h
  have L22 : ∀ (N : Nat) (v1 : Int32) (σ : xM), ∀ (H : Heap) (locs : List Loc) (ls : Array Slot), xS E B 7 (layY E B) s σ H locs → lv_has ls 2 [(0, .ref (B + k)), (1, .int v1)] → F_X7_undo_L22 k N v1 σ = some q → W p l e rm_X7_undo s m ([.ref (B + k)] : List Value).toArray below meth c H locs 0 0 (MQ below (xQ E B 7 (layY E B) (some (.int q.1)) q.2) ([.ref (B + k)] : List Value).toArray s 0 0 (wA B 7)) (F0 m 22 ls []) := by
    clear hM hl h
    intro N
    induction N with
    | zero =>
      intro v1 σ  H locs ls hM hl h
      cases h
    | succ N ih =>
      intro v1 σ  H locs ls hM hl h
      rw [F_X7_undo_L22] at h
      refine lv_iload_n hx hb dX7_undo_22 rfl (lv_at hl 1 rfl) ?_
      refine lv_sipush (v := 196) hx hb dX7_undo_23 (by decide) ?_
      refine lv_icmp_ge (tgt := 56) hx hb dX7_undo_26 (by decide) (fun c3 => ?_) (fun c3 => ?_)
      · replace h := it_h c3 h
        refine lv_aload_n hx hb dX7_undo_56 rfl (lv_at hl 0 rfl) ?_
        refine g7_2 CX hM hk_k wf_X7_30 dX7_undo_57 ?_
        obtain rfl := Option.some.inj h
        exact x_iret CX hr hlk hM rfl dX7_undo_60
      · replace h := if_h c3 h
        refine lv_aload_n hx hb dX7_undo_29 rfl (lv_at hl 0 rfl) ?_
        refine g7_0 CX hM hk_k wf_X7_7 dX7_undo_30 ?_
        refine lv_iload_n hx hb dX7_undo_33 rfl (lv_at hl 1 rfl) ?_
        refine lv_aload_n hx hb dX7_undo_34 rfl (lv_at hl 0 rfl) ?_
        refine g7_1 CX hM hk_k wf_X7_13 dX7_undo_35 ?_
        refine lv_sipush (v := 196) hx hb dX7_undo_38 (by decide) ?_
        refine lv_aload_n hx hb dX7_undo_41 rfl (lv_at hl 0 rfl) ?_
        refine g7_2 CX hM hk_k wf_X7_30 dX7_undo_42 ?_
        refine lv_imul hx hb dX7_undo_45 ?_
        refine lv_iload_n hx hb dX7_undo_46 rfl (lv_at hl 1 rfl) ?_
        refine lv_iadd hx hb dX7_undo_47 ?_
        obtain ⟨g4, h⟩ := ck_h h
        refine x_iald CX hM (kdYl (kd7_f hk_k).2.1 rfl) (ly21 (kd7_f hk_k).2.1 _) g4 dX7_undo_48 ?_
        obtain ⟨g5, h⟩ := ck_h h
        refine x_iast CX hM (kdYl (kd7_f hk_k).1 rfl) (fun f => ly20 (kd7_f hk_k).1 f) g5 dX7_undo_49 (fun H locs σ6 eσ6 hM => ?_)
        replace h := nm_h eσ6 h
        refine lv_iinc (v := (v1 + 1)) (lv' := [(1, .int (v1 + 1)), (0, .ref (B + k))]) hx hb dX7_undo_50 hl (k := 1) rfl rfl (by decide) rfl (fun ls hl => ?_)
        refine lv_goto (tgt := 22) hx hb dX7_undo_53 (by decide) ?_
        exact ih _ _  _ _ _ hM (lv_sub hl [1, 0] rfl) h
  refine lv_aload_n hx hb dX7_undo_0 rfl (lv_at hl 0 rfl) ?_
  refine g7_2 CX hM hk_k wf_X7_30 dX7_undo_1 ?_
  refine lv_if_ne (tgt := 10) hx hb dX7_undo_4 (by decide) (fun c1 => ?_) (fun c1 => ?_)
  · replace h := if_h c1 h
    refine lv_aload_n hx hb dX7_undo_10 rfl (lv_at hl 0 rfl) ?_
    refine lv_dup hx hb dX7_undo_11 rfl ?_
    refine g7_2 CX hM hk_k wf_X7_30 dX7_undo_12 ?_
    refine lv_iconst (v := 1) hx hb dX7_undo_15 (by decide) ?_
    refine lv_isub hx hb dX7_undo_16 ?_
    refine p7_2 (y := ((σ k 2) - 1)) CX hM hk_k wf_X7_30 dX7_undo_17 (fun H locs σ2 eσ2 hM => ?_)
    replace h := nm_h eσ2 h
    refine lv_iconst (v := 0) hx hb dX7_undo_20 (by decide) ?_
    refine lv_istore_n (lv' := [(1, .int 0), (0, .ref (B + k))]) hx hb dX7_undo_21 rfl hl (by decide) rfl (fun ls hl => ?_)
    exact L22 _ _ _  _ _ _ hM (lv_sub hl [1, 0] rfl) h
  · replace h := it_h c1 h
    refine lv_ldc (v := (-1000002)) hx hb CX.1.2.2.2.1 (x_hts CX wc_X7_34) dX7_undo_7 ?_
    obtain rfl := Option.some.inj h
    exact x_iret CX hr hlk hM rfl dX7_undo_9
def rm_X7_isRoom : Jvm.Room := { frames := 1, cells := 0, slots := 0, locals := 22 }
set_option maxHeartbeats 4000000 in
set_option maxRecDepth 100000 in
theorem c_X7_isRoom (l : Launch) (E : xE) (B : Nat) {k : Nat} {x1 : Int32} {σ : xM} {q : Int32 × xM} (hk_k : kdY k = 7) (h : F_X7_isRoom k x1 σ = some q) : Met l yX7_isRoom (Cond.code yX7_isRoom cX7_isRoom 2 (some .boolean) :: AL) rm_X7_isRoom (xP E B 7 (layY E B) [.ref (B + k), .int x1] σ) (xQ E B 7 (layY E B) (some (.int (bz q.1))) q.2) 0 0 (wA B 7) := by
  refine x_met (plainFor_of_name (by decide +kernel)) (Nat.le_of_ble_eq_true rfl) rfl ?_
  intro p e s m below meth c ls CX hr hlk hM hl
  have hx := CX.1.1
  have hb := CX.1.2.1
  unfold F_X7_isRoom at h
  refine lv_iload_n hx hb dX7_isRoom_0 rfl (lv_at hl 1 rfl) ?_
  refine lv_iconst (v := 0) hx hb dX7_isRoom_1 (by decide) ?_
  refine lv_aload_n hx hb dX7_isRoom_2 rfl (lv_at hl 0 rfl) ?_
  refine g7_0 CX hM hk_k wf_X7_7 dX7_isRoom_3 ?_
  refine lv_bipush (v := 7) hx hb dX7_isRoom_6 (by decide) ?_
  obtain ⟨g1, h⟩ := ck_h h
  refine x_iald CX hM (kdYl (kd7_f hk_k).1 rfl) (ly20 (kd7_f hk_k).1 _) g1 dX7_isRoom_8 ?_
  refine lv_iconst (v := 1) hx hb dX7_isRoom_9 (by decide) ?_
  refine lv_isub hx hb dX7_isRoom_10 ?_
  obtain ⟨q2, eq2, h⟩ := bd_h h
  refine x_callS (As := [.int x1, .int 0, .int ((σ (k + 1) (Int32.toNatClampNeg 7)) - 1)]) CX hM lk_X7_35 (c_X7_in l E B  eq2) ⟨rfl, rfl, by decide, by decide⟩ rfl hl.1 rfl (Nat.le_of_ble_eq_true rfl) dX7_isRoom_11 (fun H locs hM => ?_)
  refine W.eq (g2 := F0 m 14 ls [.int (bz q2.1)]) rfl ?_
  obtain rfl := Option.some.inj h
  exact x_zret (y := q2.1) CX hr hlk hM rfl rfl dX7_isRoom_14
def rm_X7_of : Jvm.Room := { frames := 0, cells := 0, slots := 0, locals := 0 }
set_option maxHeartbeats 4000000 in
set_option maxRecDepth 100000 in
theorem c_X7_of (l : Launch) (E : xE) (B : Nat) {k : Nat} {x1 : Int32} {x2 : Int32} {σ : xM} {q : Int32 × xM} (hk_k : kdY k = 7) (h : F_X7_of k x1 x2 σ = some q) : Met l yX7_of (Cond.code yX7_of cX7_of 3 (some .int) :: AL) rm_X7_of (xP E B 7 (layY E B) [.ref (B + k), .int x1, .int x2] σ) (xQ E B 7 (layY E B) (some (.int q.1)) q.2) 0 0 (wA B 7) := by
  refine x_met (plainFor_of_name (by decide +kernel)) (Nat.le_of_ble_eq_true rfl) rfl ?_
  intro p e s m below meth c ls CX hr hlk hM hl
  have hx := CX.1.1
  have hb := CX.1.2.1
  unfold F_X7_of at h
  refine lv_aload_n hx hb dX7_of_0 rfl (lv_at hl 0 rfl) ?_
  refine g7_0 CX hM hk_k wf_X7_7 dX7_of_1 ?_
  refine lv_bipush (v := 70) hx hb dX7_of_4 (by decide) ?_
  refine lv_bipush (v := 21) hx hb dX7_of_6 (by decide) ?_
  refine lv_iload_n hx hb dX7_of_8 rfl (lv_at hl 1 rfl) ?_
  refine lv_imul hx hb dX7_of_9 ?_
  refine lv_iadd hx hb dX7_of_10 ?_
  refine lv_iload_n hx hb dX7_of_11 rfl (lv_at hl 2 rfl) ?_
  refine lv_iadd hx hb dX7_of_12 ?_
  obtain ⟨g1, h⟩ := ck_h h
  refine x_iald CX hM (kdYl (kd7_f hk_k).1 rfl) (ly20 (kd7_f hk_k).1 _) g1 dX7_of_13 ?_
  obtain rfl := Option.some.inj h
  exact x_iret CX hr hlk hM rfl dX7_of_14
def rm_X7_puts : Jvm.Room := { frames := 0, cells := 0, slots := 0, locals := 0 }
set_option maxHeartbeats 4000000 in
set_option maxRecDepth 100000 in
theorem c_X7_puts (l : Launch) (E : xE) (B : Nat) {k : Nat} {x1 : Int32} {x2 : Int32} {x3 : Int32} {σ : xM} {q : Unit × xM} (hk_k : kdY k = 7) (h : F_X7_puts k x1 x2 x3 σ = some q) : Met l yX7_puts (Cond.code yX7_puts cX7_puts 4 none :: AL) rm_X7_puts (xP E B 7 (layY E B) [.ref (B + k), .int x1, .int x2, .int x3] σ) (xQ E B 7 (layY E B) none q.2) 0 0 (wA B 7) := by
  refine x_met (plainFor_of_name (by decide +kernel)) (Nat.le_of_ble_eq_true rfl) rfl ?_
  intro p e s m below meth c ls CX hr hlk hM hl
  have hx := CX.1.1
  have hb := CX.1.2.1
  unfold F_X7_puts at h
  refine lv_aload_n hx hb dX7_puts_0 rfl (lv_at hl 0 rfl) ?_
  refine g7_0 CX hM hk_k wf_X7_7 dX7_puts_1 ?_
  refine lv_bipush (v := 70) hx hb dX7_puts_4 (by decide) ?_
  refine lv_bipush (v := 21) hx hb dX7_puts_6 (by decide) ?_
  refine lv_iload_n hx hb dX7_puts_8 rfl (lv_at hl 1 rfl) ?_
  refine lv_imul hx hb dX7_puts_9 ?_
  refine lv_iadd hx hb dX7_puts_10 ?_
  refine lv_iload_n hx hb dX7_puts_11 rfl (lv_at hl 2 rfl) ?_
  refine lv_iadd hx hb dX7_puts_12 ?_
  refine lv_iload_n hx hb dX7_puts_13 rfl (lv_at hl 3 rfl) ?_
  obtain ⟨g1, h⟩ := ck_h h
  refine x_iast CX hM (kdYl (kd7_f hk_k).1 rfl) (fun f => ly20 (kd7_f hk_k).1 f) g1 dX7_puts_14 (fun H locs σ2 eσ2 hM => ?_)
  replace h := nm_h eσ2 h
  obtain rfl := Option.some.inj h
  exact x_vret CX hr hlk hM rfl dX7_puts_15
def rm_X7_grows : Jvm.Room := { frames := 0, cells := 0, slots := 0, locals := 0 }
set_option maxHeartbeats 4000000 in
set_option maxRecDepth 100000 in
theorem c_X7_grows (l : Launch) (E : xE) (B : Nat) {k : Nat} {x1 : Int32} {x2 : Int32} {x3 : Int32} {σ : xM} {q : Unit × xM} (hk_k : kdY k = 7) (h : F_X7_grows k x1 x2 x3 σ = some q) : Met l yX7_grows (Cond.code yX7_grows cX7_grows 4 none :: AL) rm_X7_grows (xP E B 7 (layY E B) [.ref (B + k), .int x1, .int x2, .int x3] σ) (xQ E B 7 (layY E B) none q.2) 0 0 (wA B 7) := by
  refine x_met (plainFor_of_name (by decide +kernel)) (Nat.le_of_ble_eq_true rfl) rfl ?_
  intro p e s m below meth c ls CX hr hlk hM hl
  have hx := CX.1.1
  have hb := CX.1.2.1
  unfold F_X7_grows at h
  refine lv_aload_n hx hb dX7_grows_0 rfl (lv_at hl 0 rfl) ?_
  refine g7_0 CX hM hk_k wf_X7_7 dX7_grows_1 ?_
  refine lv_bipush (v := 70) hx hb dX7_grows_4 (by decide) ?_
  refine lv_bipush (v := 21) hx hb dX7_grows_6 (by decide) ?_
  refine lv_iload_n hx hb dX7_grows_8 rfl (lv_at hl 1 rfl) ?_
  refine lv_imul hx hb dX7_grows_9 ?_
  refine lv_iadd hx hb dX7_grows_10 ?_
  refine lv_iload_n hx hb dX7_grows_11 rfl (lv_at hl 2 rfl) ?_
  refine lv_iadd hx hb dX7_grows_12 ?_
  refine lv_dup2_11 hx hb dX7_grows_13 rfl rfl ?_
  obtain ⟨g1, h⟩ := ck_h h
  refine x_iald CX hM (kdYl (kd7_f hk_k).1 rfl) (ly20 (kd7_f hk_k).1 _) g1 dX7_grows_14 ?_
  refine lv_iload_n hx hb dX7_grows_15 rfl (lv_at hl 3 rfl) ?_
  refine lv_iadd hx hb dX7_grows_16 ?_
  obtain ⟨g2, h⟩ := ck_h h
  refine x_iast CX hM (kdYl (kd7_f hk_k).1 rfl) (fun f => ly20 (kd7_f hk_k).1 f) g2 dX7_grows_17 (fun H locs σ3 eσ3 hM => ?_)
  replace h := nm_h eσ3 h
  obtain rfl := Option.some.inj h
  exact x_vret CX hr hlk hM rfl dX7_grows_18
def rm_X7_degrees : Jvm.Room := { frames := 0, cells := 0, slots := 0, locals := 0 }
set_option maxHeartbeats 4000000 in
set_option maxRecDepth 100000 in
theorem c_X7_degrees (l : Launch) (E : xE) (B : Nat) {x0 : Int32} {x1 : Int32} {σ : xM} {q : Int32 × xM}  (h : F_X7_degrees x0 x1 σ = some q) : Met l yX7_degrees (Cond.code yX7_degrees cX7_degrees 3 (some .int) :: AL) rm_X7_degrees (xP E B 7 (layY E B) [.int x0, .int x1] σ) (xQ E B 7 (layY E B) (some (.int q.1)) q.2) 0 0 (wA B 7) := by
  refine x_met (plainFor_of_name (by decide +kernel)) (Nat.le_of_ble_eq_true rfl) rfl ?_
  intro p e s m below meth c ls CX hr hlk hM hl
  have hx := CX.1.1
  have hb := CX.1.2.1
  unfold F_X7_degrees at h
  refine lv_sipush (v := 1000) hx hb dX7_degrees_0 (by decide) ?_
  refine lv_iload_n hx hb dX7_degrees_3 rfl (lv_at hl 0 rfl) ?_
  refine lv_imul hx hb dX7_degrees_4 ?_
  refine lv_topi (fun x2_1 ex2_1 => ?_)
  replace h := nm_h ex2_1 h
  refine lv_istore_n (lv' := [(2, .int x2_1), (0, .int x0), (1, .int x1)]) hx hb dX7_degrees_5 rfl hl (by decide) rfl (fun ls hl => ?_)
  refine lv_iload_n hx hb dX7_degrees_6 rfl (lv_at hl 0 rfl) ?_
  refine lv_if_ge (tgt := 24) hx hb dX7_degrees_7 (by decide) (fun c2 => ?_) (fun c2 => ?_)
  · replace h := it_h c2 h
    refine lv_iload_n hx hb dX7_degrees_24 rfl (lv_at hl 0 rfl) ?_
    refine lv_iload_n hx hb dX7_degrees_25 rfl (lv_at hl 2 rfl) ?_
    obtain ⟨g3, h⟩ := nz_h h
    refine lv_idiv hx hb dX7_degrees_26 g3 ?_
    obtain rfl := Option.some.inj h
    exact x_iret CX hr hlk hM rfl dX7_degrees_27
  · replace h := if_h c2 h
    refine lv_iload_n hx hb dX7_degrees_10 rfl (lv_at hl 0 rfl) ?_
    refine lv_iload_n hx hb dX7_degrees_11 rfl (lv_at hl 2 rfl) ?_
    obtain ⟨g7, h⟩ := nz_h h
    refine lv_irem hx hb dX7_degrees_12 g7 ?_
    refine lv_if_eq (tgt := 24) hx hb dX7_degrees_13 (by decide) (fun c4 => ?_) (fun c4 => ?_)
    · replace h := it_h c4 h
      refine lv_iload_n hx hb dX7_degrees_24 rfl (lv_at hl 0 rfl) ?_
      refine lv_iload_n hx hb dX7_degrees_25 rfl (lv_at hl 2 rfl) ?_
      obtain ⟨g5, h⟩ := nz_h h
      refine lv_idiv hx hb dX7_degrees_26 g5 ?_
      obtain rfl := Option.some.inj h
      exact x_iret CX hr hlk hM rfl dX7_degrees_27
    · replace h := if_h c4 h
      refine lv_iload_n hx hb dX7_degrees_16 rfl (lv_at hl 0 rfl) ?_
      refine lv_iload_n hx hb dX7_degrees_17 rfl (lv_at hl 2 rfl) ?_
      obtain ⟨g6, h⟩ := nz_h h
      refine lv_idiv hx hb dX7_degrees_18 g6 ?_
      refine lv_iconst (v := 1) hx hb dX7_degrees_19 (by decide) ?_
      refine lv_isub hx hb dX7_degrees_20 ?_
      refine lv_goto (tgt := 27) hx hb dX7_degrees_21 (by decide) ?_
      obtain rfl := Option.some.inj h
      exact x_iret CX hr hlk hM rfl dX7_degrees_27
def rm_X7_temperature : Jvm.Room := { frames := 1, cells := 0, slots := 0, locals := 22 }
set_option maxHeartbeats 4000000 in
set_option maxRecDepth 100000 in
theorem c_X7_temperature (l : Launch) (E : xE) (B : Nat) {k : Nat} {x1 : Int32} {σ : xM} {q : Int32 × xM} (hk_k : kdY k = 7) (h : F_X7_temperature k x1 σ = some q) : Met l yX7_temperature (Cond.code yX7_temperature cX7_temperature 2 (some .int) :: AL) rm_X7_temperature (xP E B 7 (layY E B) [.ref (B + k), .int x1] σ) (xQ E B 7 (layY E B) (some (.int q.1)) q.2) 0 0 (wA B 7) := by
  refine x_met (plainFor_of_name (by decide +kernel)) (Nat.le_of_ble_eq_true rfl) rfl ?_
  intro p e s m below meth c ls CX hr hlk hM hl
  have hx := CX.1.1
  have hb := CX.1.2.1
  unfold F_X7_temperature at h
  refine lv_aload_n hx hb dX7_temperature_0 rfl (lv_at hl 0 rfl) ?_
  refine lv_iload_n hx hb dX7_temperature_1 rfl (lv_at hl 1 rfl) ?_
  refine lv_iconst (v := 1) hx hb dX7_temperature_2 (by decide) ?_
  obtain ⟨q1, eq1, h⟩ := bd_h h
  refine x_callV (As := [.int x1, .int 1]) CX hM (kdYl hk_k rfl) (ly7 hk_k _) rfl lk_X7_39 (c_X7_of l E B hk_k eq1) ⟨rfl, rfl, by decide, by decide⟩ rfl hl.1 rfl (Nat.le_of_ble_eq_true rfl) dX7_temperature_3 (fun H locs hM => ?_)
  refine W.eq (g2 := F0 m 6 ls [.int q1.1]) rfl ?_
  refine lv_aload_n hx hb dX7_temperature_6 rfl (lv_at hl 0 rfl) ?_
  refine lv_iload_n hx hb dX7_temperature_7 rfl (lv_at hl 1 rfl) ?_
  refine lv_iconst (v := 0) hx hb dX7_temperature_8 (by decide) ?_
  obtain ⟨q2, eq2, h⟩ := bd_h h
  refine x_callV (As := [.int x1, .int 0]) CX hM (kdYl hk_k rfl) (ly7 hk_k _) rfl lk_X7_39 (c_X7_of l E B hk_k eq2) ⟨rfl, rfl, by decide, by decide⟩ rfl hl.1 rfl (Nat.le_of_ble_eq_true rfl) dX7_temperature_9 (fun H locs hM => ?_)
  refine W.eq (g2 := F0 m 12 ls [.int q2.1, .int q1.1]) rfl ?_
  obtain ⟨q3, eq3, h⟩ := bd_h h
  refine x_callS (As := [.int q1.1, .int q2.1]) CX hM lk_X7_43 (c_X7_degrees l E B  eq3) ⟨rfl, rfl, by decide, by decide⟩ rfl hl.1 rfl (Nat.le_of_ble_eq_true rfl) dX7_temperature_12 (fun H locs hM => ?_)
  refine W.eq (g2 := F0 m 15 ls [.int q3.1]) rfl ?_
  obtain rfl := Option.some.inj h
  exact x_iret CX hr hlk hM rfl dX7_temperature_15
def rm_X7_addRoom : Jvm.Room := { frames := 1, cells := 0, slots := 0, locals := 23 }
set_option maxHeartbeats 4000000 in
set_option maxRecDepth 100000 in
theorem c_X7_addRoom (l : Launch) (E : xE) (B : Nat) {k : Nat} {x1 : Int32} {x2 : Int32} {x3 : Int32} {x4 : Int32} {σ : xM} {q : Int32 × xM} (hk_k : kdY k = 7) (h : F_X7_addRoom k x1 x2 x3 x4 σ = some q) : Met l yX7_addRoom (Cond.code yX7_addRoom cX7_addRoom 7 (some .int) :: AL) rm_X7_addRoom (xP E B 7 (layY E B) [.ref (B + k), .int x1, .int x2, .int x3, .int x4] σ) (xQ E B 7 (layY E B) (some (.int q.1)) q.2) 0 0 (wA B 7) := by
  refine x_met (plainFor_of_name (by decide +kernel)) (Nat.le_of_ble_eq_true rfl) rfl ?_
  intro p e s m below meth c ls CX hr hlk hM hl
  have hx := CX.1.1
  have hb := CX.1.2.1
  unfold F_X7_addRoom at h
  have J57 : ∀ (v1 : Int32) (v2 : Int32) (v3 : Int32) (v4 : Int32) (y0 : Int32) (σ : xM), ∀ (H : Heap) (locs : List Loc) (ls : Array Slot), xS E B 7 (layY E B) s σ H locs → lv_has ls 7 [(0, .ref (B + k)), (1, .int v1), (2, .int v2), (3, .int v3), (4, .int v4)] → F_X7_addRoom_J57 k v1 v2 v3 v4 y0 σ = some q → W p l e rm_X7_addRoom s m ([.ref (B + k), .int x1, .int x2, .int x3, .int x4] : List Value).toArray below meth c H locs 0 0 (MQ below (xQ E B 7 (layY E B) (some (.int q.1)) q.2) ([.ref (B + k), .int x1, .int x2, .int x3, .int x4] : List Value).toArray s 0 0 (wA B 7)) (F0 m 57 ls [.int y0]) := by
    clear hM hl h
    intro v1 v2 v3 v4 y0 σ  H locs ls hM hl h
    unfold F_X7_addRoom_J57 at h
    refine lv_istore (lv' := [(5, .int y0), (0, .ref (B + k)), (1, .int v1), (2, .int v2), (3, .int v3), (4, .int v4)]) hx hb dX7_addRoom_57 hl (by decide) rfl (fun ls hl => ?_)
    refine lv_iload hx hb dX7_addRoom_59 (lv_at hl 0 rfl) ?_
    refine lv_if_ne (tgt := 67) hx hb dX7_addRoom_61 (by decide) (fun c3 => ?_) (fun c3 => ?_)
    · replace h := if_h c3 h
      refine lv_aload_n hx hb dX7_addRoom_67 rfl (lv_at hl 1 rfl) ?_
      refine g7_0 CX hM hk_k wf_X7_7 dX7_addRoom_68 ?_
      refine lv_bipush (v := 7) hx hb dX7_addRoom_71 (by decide) ?_
      obtain ⟨g4, h⟩ := ck_h h
      refine x_iald CX hM (kdYl (kd7_f hk_k).1 rfl) (ly20 (kd7_f hk_k).1 _) g4 dX7_addRoom_73 ?_
      refine lv_bipush (v := 6) hx hb dX7_addRoom_74 (by decide) ?_
      refine lv_icmp_ne (tgt := 82) hx hb dX7_addRoom_76 (by decide) (fun c5 => ?_) (fun c5 => ?_)
      · replace h := if_h c5 h
        refine lv_aload_n hx hb dX7_addRoom_82 rfl (lv_at hl 1 rfl) ?_
        obtain ⟨q6, eq6, h⟩ := bd_h h
        refine x_callV (As := []) CX hM (kdYl hk_k rfl) (ly7 hk_k _) rfl lk_X7_48 (c_X7_notes l E B hk_k eq6) ⟨rfl, rfl, by decide, by decide⟩ rfl hl.1 rfl (Nat.le_of_ble_eq_true rfl) dX7_addRoom_83 (fun H locs hM => ?_)
        refine W.eq (g2 := F0 m 86 ls []) rfl ?_
        refine lv_aload_n hx hb dX7_addRoom_86 rfl (lv_at hl 1 rfl) ?_
        refine g7_0 CX hM hk_k wf_X7_7 dX7_addRoom_87 ?_
        refine lv_bipush (v := 7) hx hb dX7_addRoom_90 (by decide) ?_
        obtain ⟨g7, h⟩ := ck_h h
        refine x_iald CX hM (kdYl (kd7_f hk_k).1 rfl) (ly20 (kd7_f hk_k).1 _) g7 dX7_addRoom_92 ?_
        refine lv_topi (fun x6_8 ex6_8 => ?_)
        replace h := nm_h ex6_8 h
        refine lv_istore (lv' := [(6, .int x6_8), (5, .int y0), (0, .ref (B + k)), (1, .int v1), (2, .int v2), (3, .int v3), (4, .int v4)]) hx hb dX7_addRoom_93 hl (by decide) rfl (fun ls hl => ?_)
        refine lv_aload_n hx hb dX7_addRoom_95 rfl (lv_at hl 2 rfl) ?_
        refine g7_0 CX hM hk_k wf_X7_7 dX7_addRoom_96 ?_
        refine lv_bipush (v := 7) hx hb dX7_addRoom_99 (by decide) ?_
        refine lv_dup2_11 hx hb dX7_addRoom_101 rfl rfl ?_
        obtain ⟨g9, h⟩ := ck_h h
        refine x_iald CX hM (kdYl (kd7_f hk_k).1 rfl) (ly20 (kd7_f hk_k).1 _) g9 dX7_addRoom_102 ?_
        refine lv_iconst (v := 1) hx hb dX7_addRoom_103 (by decide) ?_
        refine lv_iadd hx hb dX7_addRoom_104 ?_
        obtain ⟨g10, h⟩ := ck_h h
        refine x_iast CX hM (kdYl (kd7_f hk_k).1 rfl) (fun f => ly20 (kd7_f hk_k).1 f) g10 dX7_addRoom_105 (fun H locs σ11 eσ11 hM => ?_)
        replace h := nm_h eσ11 h
        refine lv_aload_n hx hb dX7_addRoom_106 rfl (lv_at hl 2 rfl) ?_
        refine lv_iload hx hb dX7_addRoom_107 (lv_at hl 0 rfl) ?_
        refine lv_iconst (v := 0) hx hb dX7_addRoom_109 (by decide) ?_
        refine lv_iload_n hx hb dX7_addRoom_110 rfl (lv_at hl 3 rfl) ?_
        obtain ⟨q12, eq12, h⟩ := bd_h h
        refine x_callV (As := [.int x6_8, .int 0, .int v1]) CX hM (kdYl hk_k rfl) (ly7 hk_k _) rfl lk_X7_51 (c_X7_puts l E B hk_k eq12) ⟨rfl, rfl, by decide, by decide⟩ rfl hl.1 rfl (Nat.le_of_ble_eq_true rfl) dX7_addRoom_111 (fun H locs hM => ?_)
        refine W.eq (g2 := F0 m 114 ls []) rfl ?_
        refine lv_aload_n hx hb dX7_addRoom_114 rfl (lv_at hl 2 rfl) ?_
        refine lv_iload hx hb dX7_addRoom_115 (lv_at hl 0 rfl) ?_
        refine lv_iconst (v := 1) hx hb dX7_addRoom_117 (by decide) ?_
        refine lv_iload_n hx hb dX7_addRoom_118 rfl (lv_at hl 3 rfl) ?_
        refine lv_iload hx hb dX7_addRoom_119 (lv_at hl 6 rfl) ?_
        refine lv_imul hx hb dX7_addRoom_121 ?_
        obtain ⟨q13, eq13, h⟩ := bd_h h
        refine x_callV (As := [.int x6_8, .int 1, .int (v1 * v4)]) CX hM (kdYl hk_k rfl) (ly7 hk_k _) rfl lk_X7_51 (c_X7_puts l E B hk_k eq13) ⟨rfl, rfl, by decide, by decide⟩ rfl hl.1 rfl (Nat.le_of_ble_eq_true rfl) dX7_addRoom_122 (fun H locs hM => ?_)
        refine W.eq (g2 := F0 m 125 ls []) rfl ?_
        refine lv_aload_n hx hb dX7_addRoom_125 rfl (lv_at hl 2 rfl) ?_
        refine lv_iload hx hb dX7_addRoom_126 (lv_at hl 0 rfl) ?_
        refine lv_iconst (v := 2) hx hb dX7_addRoom_128 (by decide) ?_
        refine lv_iload_n hx hb dX7_addRoom_129 rfl (lv_at hl 4 rfl) ?_
        obtain ⟨q14, eq14, h⟩ := bd_h h
        refine x_callV (As := [.int x6_8, .int 2, .int v2]) CX hM (kdYl hk_k rfl) (ly7 hk_k _) rfl lk_X7_51 (c_X7_puts l E B hk_k eq14) ⟨rfl, rfl, by decide, by decide⟩ rfl hl.1 rfl (Nat.le_of_ble_eq_true rfl) dX7_addRoom_130 (fun H locs hM => ?_)
        refine W.eq (g2 := F0 m 133 ls []) rfl ?_
        refine lv_aload_n hx hb dX7_addRoom_133 rfl (lv_at hl 2 rfl) ?_
        refine lv_iload hx hb dX7_addRoom_134 (lv_at hl 0 rfl) ?_
        refine lv_iconst (v := 3) hx hb dX7_addRoom_136 (by decide) ?_
        refine lv_iload_n hx hb dX7_addRoom_137 rfl (lv_at hl 5 rfl) ?_
        obtain ⟨q15, eq15, h⟩ := bd_h h
        refine x_callV (As := [.int x6_8, .int 3, .int v3]) CX hM (kdYl hk_k rfl) (ly7 hk_k _) rfl lk_X7_51 (c_X7_puts l E B hk_k eq15) ⟨rfl, rfl, by decide, by decide⟩ rfl hl.1 rfl (Nat.le_of_ble_eq_true rfl) dX7_addRoom_138 (fun H locs hM => ?_)
        refine W.eq (g2 := F0 m 141 ls []) rfl ?_
        refine lv_aload_n hx hb dX7_addRoom_141 rfl (lv_at hl 2 rfl) ?_
        refine lv_iload hx hb dX7_addRoom_142 (lv_at hl 0 rfl) ?_
        refine lv_iconst (v := 4) hx hb dX7_addRoom_144 (by decide) ?_
        refine lv_sipush (v := 20000) hx hb dX7_addRoom_145 (by decide) ?_
        obtain ⟨q16, eq16, h⟩ := bd_h h
        refine x_callV (As := [.int x6_8, .int 4, .int 20000]) CX hM (kdYl hk_k rfl) (ly7 hk_k _) rfl lk_X7_51 (c_X7_puts l E B hk_k eq16) ⟨rfl, rfl, by decide, by decide⟩ rfl hl.1 rfl (Nat.le_of_ble_eq_true rfl) dX7_addRoom_148 (fun H locs hM => ?_)
        refine W.eq (g2 := F0 m 151 ls []) rfl ?_
        refine lv_aload_n hx hb dX7_addRoom_151 rfl (lv_at hl 2 rfl) ?_
        refine lv_iload hx hb dX7_addRoom_152 (lv_at hl 0 rfl) ?_
        refine lv_iconst (v := 5) hx hb dX7_addRoom_154 (by decide) ?_
        refine lv_sipush (v := 1000) hx hb dX7_addRoom_155 (by decide) ?_
        obtain ⟨q17, eq17, h⟩ := bd_h h
        refine x_callV (As := [.int x6_8, .int 5, .int 1000]) CX hM (kdYl hk_k rfl) (ly7 hk_k _) rfl lk_X7_51 (c_X7_puts l E B hk_k eq17) ⟨rfl, rfl, by decide, by decide⟩ rfl hl.1 rfl (Nat.le_of_ble_eq_true rfl) dX7_addRoom_158 (fun H locs hM => ?_)
        refine W.eq (g2 := F0 m 161 ls []) rfl ?_
        refine lv_aload_n hx hb dX7_addRoom_161 rfl (lv_at hl 2 rfl) ?_
        refine lv_iload hx hb dX7_addRoom_162 (lv_at hl 0 rfl) ?_
        refine lv_bipush (v := 6) hx hb dX7_addRoom_164 (by decide) ?_
        refine lv_sipush (v := 1000) hx hb dX7_addRoom_166 (by decide) ?_
        refine lv_iload hx hb dX7_addRoom_169 (lv_at hl 6 rfl) ?_
        refine lv_imul hx hb dX7_addRoom_171 ?_
        obtain ⟨q18, eq18, h⟩ := bd_h h
        refine x_callV (As := [.int x6_8, .int 6, .int (1000 * v4)]) CX hM (kdYl hk_k rfl) (ly7 hk_k _) rfl lk_X7_51 (c_X7_puts l E B hk_k eq18) ⟨rfl, rfl, by decide, by decide⟩ rfl hl.1 rfl (Nat.le_of_ble_eq_true rfl) dX7_addRoom_172 (fun H locs hM => ?_)
        refine W.eq (g2 := F0 m 175 ls []) rfl ?_
        refine lv_aload_n hx hb dX7_addRoom_175 rfl (lv_at hl 2 rfl) ?_
        refine lv_iload hx hb dX7_addRoom_176 (lv_at hl 0 rfl) ?_
        refine lv_bipush (v := 15) hx hb dX7_addRoom_178 (by decide) ?_
        refine lv_ldc (v := (-1000009)) hx hb CX.1.2.2.2.1 (x_hts CX wc_X7_55) dX7_addRoom_180 ?_
        obtain ⟨q19, eq19, h⟩ := bd_h h
        refine x_callV (As := [.int x6_8, .int 15, .int (-1000009)]) CX hM (kdYl hk_k rfl) (ly7 hk_k _) rfl lk_X7_51 (c_X7_puts l E B hk_k eq19) ⟨rfl, rfl, by decide, by decide⟩ rfl hl.1 rfl (Nat.le_of_ble_eq_true rfl) dX7_addRoom_182 (fun H locs hM => ?_)
        refine W.eq (g2 := F0 m 185 ls []) rfl ?_
        refine lv_aload_n hx hb dX7_addRoom_185 rfl (lv_at hl 2 rfl) ?_
        refine lv_iload hx hb dX7_addRoom_186 (lv_at hl 0 rfl) ?_
        refine lv_bipush (v := 16) hx hb dX7_addRoom_188 (by decide) ?_
        refine lv_iload_n hx hb dX7_addRoom_190 rfl (lv_at hl 3 rfl) ?_
        refine lv_iload hx hb dX7_addRoom_191 (lv_at hl 6 rfl) ?_
        refine lv_imul hx hb dX7_addRoom_193 ?_
        obtain ⟨q20, eq20, h⟩ := bd_h h
        refine x_callV (As := [.int x6_8, .int 16, .int (v1 * v4)]) CX hM (kdYl hk_k rfl) (ly7 hk_k _) rfl lk_X7_51 (c_X7_puts l E B hk_k eq20) ⟨rfl, rfl, by decide, by decide⟩ rfl hl.1 rfl (Nat.le_of_ble_eq_true rfl) dX7_addRoom_194 (fun H locs hM => ?_)
        refine W.eq (g2 := F0 m 197 ls []) rfl ?_
        refine lv_iload hx hb dX7_addRoom_197 (lv_at hl 0 rfl) ?_
        obtain rfl := Option.some.inj h
        exact x_iret CX hr hlk hM rfl dX7_addRoom_199
      · replace h := it_h c5 h
        refine lv_ldc (v := (-1000003)) hx hb CX.1.2.2.2.1 (x_hts CX wc_X7_47) dX7_addRoom_79 ?_
        obtain rfl := Option.some.inj h
        exact x_iret CX hr hlk hM rfl dX7_addRoom_81
    · replace h := it_h c3 h
      refine lv_ldc (v := (-1000001)) hx hb CX.1.2.2.2.1 (x_hts CX wc_X7_46) dX7_addRoom_64 ?_
      obtain rfl := Option.some.inj h
      exact x_iret CX hr hlk hM rfl dX7_addRoom_66
  have J56 : ∀ (v1 : Int32) (v2 : Int32) (v3 : Int32) (v4 : Int32) (σ : xM), ∀ (H : Heap) (locs : List Loc) (ls : Array Slot), xS E B 7 (layY E B) s σ H locs → lv_has ls 7 [(0, .ref (B + k)), (1, .int v1), (2, .int v2), (3, .int v3), (4, .int v4)] → F_X7_addRoom_J56 k v1 v2 v3 v4 σ = some q → W p l e rm_X7_addRoom s m ([.ref (B + k), .int x1, .int x2, .int x3, .int x4] : List Value).toArray below meth c H locs 0 0 (MQ below (xQ E B 7 (layY E B) (some (.int q.1)) q.2) ([.ref (B + k), .int x1, .int x2, .int x3, .int x4] : List Value).toArray s 0 0 (wA B 7)) (F0 m 56 ls []) := by
    clear hM hl h
    intro v1 v2 v3 v4 σ  H locs ls hM hl h
    unfold F_X7_addRoom_J56 at h
    refine lv_iconst (v := 0) hx hb dX7_addRoom_56 (by decide) ?_
    exact J57 _ _ _ _ _ _  _ _ _ hM (lv_sub hl [0, 1, 2, 3, 4] rfl) h
  refine lv_iload_n hx hb dX7_addRoom_0 rfl (lv_at hl 1 rfl) ?_
  refine lv_bipush (v := 10) hx hb dX7_addRoom_1 (by decide) ?_
  refine lv_sipush (v := 500) hx hb dX7_addRoom_3 (by decide) ?_
  obtain ⟨q1, eq1, h⟩ := bd_h h
  refine x_callS (As := [.int x1, .int 10, .int 500]) CX hM lk_X7_35 (c_X7_in l E B  eq1) ⟨rfl, rfl, by decide, by decide⟩ rfl hl.1 rfl (Nat.le_of_ble_eq_true rfl) dX7_addRoom_6 (fun H locs hM => ?_)
  refine W.eq (g2 := F0 m 9 ls [.int (bz q1.1)]) rfl ?_
  refine lv_if_eq (tgt := 56) hx hb dX7_addRoom_9 (by decide) (fun c2 => ?_) (fun c2 => ?_)
  · replace h := it_h c2 h
    exact J56 _ _ _ _ _  _ _ _ hM (lv_sub hl [0, 1, 2, 3, 4] rfl) h
  · replace h := if_h c2 h
    refine lv_iload_n hx hb dX7_addRoom_12 rfl (lv_at hl 2 rfl) ?_
    refine lv_iconst (v := 1) hx hb dX7_addRoom_13 (by decide) ?_
    refine lv_sipush (v := 200) hx hb dX7_addRoom_14 (by decide) ?_
    obtain ⟨q21, eq21, h⟩ := bd_h h
    refine x_callS (As := [.int x2, .int 1, .int 200]) CX hM lk_X7_35 (c_X7_in l E B  eq21) ⟨rfl, rfl, by decide, by decide⟩ rfl hl.1 rfl (Nat.le_of_ble_eq_true rfl) dX7_addRoom_17 (fun H locs hM => ?_)
    refine W.eq (g2 := F0 m 20 ls [.int (bz q21.1)]) rfl ?_
    refine lv_if_eq (tgt := 56) hx hb dX7_addRoom_20 (by decide) (fun c22 => ?_) (fun c22 => ?_)
    · replace h := it_h c22 h
      exact J56 _ _ _ _ _  _ _ _ hM (lv_sub hl [0, 1, 2, 3, 4] rfl) h
    · replace h := if_h c22 h
      refine lv_iload_n hx hb dX7_addRoom_23 rfl (lv_at hl 3 rfl) ?_
      refine lv_iconst (v := 0) hx hb dX7_addRoom_24 (by decide) ?_
      refine lv_bipush (v := 50) hx hb dX7_addRoom_25 (by decide) ?_
      obtain ⟨q23, eq23, h⟩ := bd_h h
      refine x_callS (As := [.int x3, .int 0, .int 50]) CX hM lk_X7_35 (c_X7_in l E B  eq23) ⟨rfl, rfl, by decide, by decide⟩ rfl hl.1 rfl (Nat.le_of_ble_eq_true rfl) dX7_addRoom_27 (fun H locs hM => ?_)
      refine W.eq (g2 := F0 m 30 ls [.int (bz q23.1)]) rfl ?_
      refine lv_if_eq (tgt := 56) hx hb dX7_addRoom_30 (by decide) (fun c24 => ?_) (fun c24 => ?_)
      · replace h := it_h c24 h
        exact J56 _ _ _ _ _  _ _ _ hM (lv_sub hl [0, 1, 2, 3, 4] rfl) h
      · replace h := if_h c24 h
        refine lv_iconst (v := 2) hx hb dX7_addRoom_33 (by decide) ?_
        refine lv_iload_n hx hb dX7_addRoom_34 rfl (lv_at hl 3 rfl) ?_
        refine lv_imul hx hb dX7_addRoom_35 ?_
        refine lv_iload_n hx hb dX7_addRoom_36 rfl (lv_at hl 1 rfl) ?_
        refine lv_icmp_gt (tgt := 56) hx hb dX7_addRoom_37 (by decide) (fun c25 => ?_) (fun c25 => ?_)
        · replace h := it_h c25 h
          exact J56 _ _ _ _ _  _ _ _ hM (lv_sub hl [0, 1, 2, 3, 4] rfl) h
        · replace h := if_h c25 h
          refine lv_iload hx hb dX7_addRoom_40 (lv_at hl 4 rfl) ?_
          refine lv_bipush (v := (-40)) hx hb dX7_addRoom_42 (by decide) ?_
          refine lv_bipush (v := 40) hx hb dX7_addRoom_44 (by decide) ?_
          obtain ⟨q26, eq26, h⟩ := bd_h h
          refine x_callS (As := [.int x4, .int (-40), .int 40]) CX hM lk_X7_35 (c_X7_in l E B  eq26) ⟨rfl, rfl, by decide, by decide⟩ rfl hl.1 rfl (Nat.le_of_ble_eq_true rfl) dX7_addRoom_46 (fun H locs hM => ?_)
          refine W.eq (g2 := F0 m 49 ls [.int (bz q26.1)]) rfl ?_
          refine lv_if_eq (tgt := 56) hx hb dX7_addRoom_49 (by decide) (fun c27 => ?_) (fun c27 => ?_)
          · replace h := it_h c27 h
            exact J56 _ _ _ _ _  _ _ _ hM (lv_sub hl [0, 1, 2, 3, 4] rfl) h
          · replace h := if_h c27 h
            refine lv_iconst (v := 1) hx hb dX7_addRoom_52 (by decide) ?_
            refine lv_goto (tgt := 57) hx hb dX7_addRoom_53 (by decide) ?_
            exact J57 _ _ _ _ _ _  _ _ _ hM (lv_sub hl [0, 1, 2, 3, 4] rfl) h
def rm_X7_areRooms : Jvm.Room := { frames := 2, cells := 0, slots := 0, locals := 43 }
set_option maxHeartbeats 4000000 in
set_option maxRecDepth 100000 in
theorem c_X7_areRooms (l : Launch) (E : xE) (B : Nat) {k : Nat} {x1 : Int32} {x2 : Int32} {σ : xM} {q : Int32 × xM} (hk_k : kdY k = 7) (h : F_X7_areRooms k x1 x2 σ = some q) : Met l yX7_areRooms (Cond.code yX7_areRooms cX7_areRooms 3 (some .boolean) :: AL) rm_X7_areRooms (xP E B 7 (layY E B) [.ref (B + k), .int x1, .int x2] σ) (xQ E B 7 (layY E B) (some (.int (bz q.1))) q.2) 0 0 (wA B 7) := by
  refine x_met (plainFor_of_name (by decide +kernel)) (Nat.le_of_ble_eq_true rfl) rfl ?_
  intro p e s m below meth c ls CX hr hlk hM hl
  have hx := CX.1.1
  have hb := CX.1.2.1
  unfold F_X7_areRooms at h
  refine lv_aload_n hx hb dX7_areRooms_0 rfl (lv_at hl 0 rfl) ?_
  refine lv_iload_n hx hb dX7_areRooms_1 rfl (lv_at hl 1 rfl) ?_
  obtain ⟨q1, eq1, h⟩ := bd_h h
  refine x_callV (As := [.int x1]) CX hM (kdYl hk_k rfl) (ly7 hk_k _) rfl lk_X7_56 (c_X7_isRoom l E B hk_k eq1) ⟨rfl, rfl, by decide, by decide⟩ rfl hl.1 rfl (Nat.le_of_ble_eq_true rfl) dX7_areRooms_2 (fun H locs hM => ?_)
  refine W.eq (g2 := F0 m 5 ls [.int (bz q1.1)]) rfl ?_
  refine lv_if_eq (tgt := 25) hx hb dX7_areRooms_5 (by decide) (fun c2 => ?_) (fun c2 => ?_)
  · replace h := it_h c2 h
    refine lv_iconst (v := 0) hx hb dX7_areRooms_25 (by decide) ?_
    obtain rfl := Option.some.inj h
    exact x_zret (y := 0) CX hr hlk hM rfl rfl dX7_areRooms_26
  · replace h := if_h c2 h
    refine lv_aload_n hx hb dX7_areRooms_8 rfl (lv_at hl 0 rfl) ?_
    refine lv_iload_n hx hb dX7_areRooms_9 rfl (lv_at hl 2 rfl) ?_
    obtain ⟨q3, eq3, h⟩ := bd_h h
    refine x_callV (As := [.int x2]) CX hM (kdYl hk_k rfl) (ly7 hk_k _) rfl lk_X7_56 (c_X7_isRoom l E B hk_k eq3) ⟨rfl, rfl, by decide, by decide⟩ rfl hl.1 rfl (Nat.le_of_ble_eq_true rfl) dX7_areRooms_10 (fun H locs hM => ?_)
    refine W.eq (g2 := F0 m 13 ls [.int (bz q3.1)]) rfl ?_
    refine lv_if_eq (tgt := 25) hx hb dX7_areRooms_13 (by decide) (fun c4 => ?_) (fun c4 => ?_)
    · replace h := it_h c4 h
      refine lv_iconst (v := 0) hx hb dX7_areRooms_25 (by decide) ?_
      obtain rfl := Option.some.inj h
      exact x_zret (y := 0) CX hr hlk hM rfl rfl dX7_areRooms_26
    · replace h := if_h c4 h
      refine lv_iload_n hx hb dX7_areRooms_16 rfl (lv_at hl 1 rfl) ?_
      refine lv_iload_n hx hb dX7_areRooms_17 rfl (lv_at hl 2 rfl) ?_
      refine lv_icmp_eq (tgt := 25) hx hb dX7_areRooms_18 (by decide) (fun c5 => ?_) (fun c5 => ?_)
      · replace h := it_h c5 h
        refine lv_iconst (v := 0) hx hb dX7_areRooms_25 (by decide) ?_
        obtain rfl := Option.some.inj h
        exact x_zret (y := 0) CX hr hlk hM rfl rfl dX7_areRooms_26
      · replace h := if_h c5 h
        refine lv_iconst (v := 1) hx hb dX7_areRooms_21 (by decide) ?_
        refine lv_goto (tgt := 26) hx hb dX7_areRooms_22 (by decide) ?_
        obtain rfl := Option.some.inj h
        exact x_zret (y := 1) CX hr hlk hM rfl rfl dX7_areRooms_26
