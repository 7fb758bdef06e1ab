def rm_X7_drain : Jvm.Room := { frames := 1, cells := 0, slots := 0, locals := 22 }
set_option maxHeartbeats 4000000 in
set_option maxRecDepth 100000 in
theorem c_X7_drain (l : Launch) (E : xE) (B : Nat) {k : Nat} {x1 : Int32} {σ : xM} {q : Int32 × xM} (hk_k : kdY k = 7) (h : F_X7_drain k x1 σ = some q) : Met l yX7_drain (Cond.code yX7_drain cX7_drain 4 (some .int) :: AL) rm_X7_drain (xP E B 7 (layY E B) [.ref (B + k), .int x1] σ) (xQ E B 7 (layY E B) (some (.int q.1)) q.2) 0 0 (wA B 7) := by
  refine x_met (plainFor_of_name (by decide +kernel)) (Nat.le_of_ble_eq_true rfl) rfl ?_
  intro p e s m below meth c ls CX hr hlk hM hl
  have hx := CX.1.1
  have hb := CX.1.2.1
  unfold F_X7_drain at h
  have L9 : ∀ (N : Nat) (v1 : Int32) (v2 : Int32) (v3 : Int32) (σ : xM), ∀ (H : Heap) (locs : List Loc) (ls : Array Slot), xS E B 7 (layY E B) s σ H locs → lv_has ls 4 [(0, .ref (B + k)), (1, .int v1), (2, .int v2), (3, .int v3)] → F_X7_drain_L9 k N v1 v2 v3 σ = some q → W p l e rm_X7_drain s m ([.ref (B + k), .int x1] : List Value).toArray below meth c H locs 0 0 (MQ below (xQ E B 7 (layY E B) (some (.int q.1)) q.2) ([.ref (B + k), .int x1] : List Value).toArray s 0 0 (wA B 7)) (F0 m 9 ls []) := by
    clear hM hl h
    intro N
    induction N with
    | zero =>
      intro v1 v2 v3 σ  H locs ls hM hl h
      cases h
    | succ N ih =>
      intro v1 v2 v3 σ  H locs ls hM hl h
      rw [F_X7_drain_L9] at h
      refine lv_iload_n hx hb dX7_drain_9 rfl (lv_at hl 3 rfl) ?_
      refine lv_bipush (v := 6) hx hb dX7_drain_10 (by decide) ?_
      refine lv_icmp_ge (tgt := 38) hx hb dX7_drain_12 (by decide) (fun c2 => ?_) (fun c2 => ?_)
      · replace h := it_h c2 h
        refine lv_iload_n hx hb dX7_drain_38 rfl (lv_at hl 2 rfl) ?_
        obtain rfl := Option.some.inj h
        exact x_iret CX hr hlk hM rfl dX7_drain_39
      · replace h := if_h c2 h
        refine lv_iload_n hx hb dX7_drain_15 rfl (lv_at hl 2 rfl) ?_
        refine lv_aload_n hx hb dX7_drain_16 rfl (lv_at hl 0 rfl) ?_
        refine g7_0 CX hM hk_k wf_X7_7 dX7_drain_17 ?_
        refine lv_bipush (v := 34) hx hb dX7_drain_20 (by decide) ?_
        refine lv_bipush (v := 6) hx hb dX7_drain_22 (by decide) ?_
        refine lv_iload_n hx hb dX7_drain_24 rfl (lv_at hl 1 rfl) ?_
        refine lv_imul hx hb dX7_drain_25 ?_
        refine lv_iadd hx hb dX7_drain_26 ?_
        refine lv_iload_n hx hb dX7_drain_27 rfl (lv_at hl 3 rfl) ?_
        refine lv_iadd hx hb dX7_drain_28 ?_
        obtain ⟨g3, h⟩ := ck_h h
        refine x_iald CX hM (kdYl (kd7_f hk_k).1 rfl) (ly20 (kd7_f hk_k).1 _) g3 dX7_drain_29 ?_
        refine lv_iadd hx hb dX7_drain_30 ?_
        refine lv_topi (fun x2_4 ex2_4 => ?_)
        replace h := nm_h ex2_4 h
        refine lv_istore_n (lv' := [(2, .int x2_4), (0, .ref (B + k)), (1, .int v1), (3, .int v3)]) hx hb dX7_drain_31 rfl hl (by decide) rfl (fun ls hl => ?_)
        refine lv_iinc (v := (v3 + 1)) (lv' := [(3, .int (v3 + 1)), (2, .int x2_4), (0, .ref (B + k)), (1, .int v1)]) hx hb dX7_drain_32 hl (k := 3) rfl rfl (by decide) rfl (fun ls hl => ?_)
        refine lv_goto (tgt := 9) hx hb dX7_drain_35 (by decide) ?_
        exact ih _ _ _ _  _ _ _ hM (lv_sub hl [2, 3, 1, 0] rfl) h
  refine lv_aload_n hx hb dX7_drain_0 rfl (lv_at hl 0 rfl) ?_
  refine lv_iload_n hx hb dX7_drain_1 rfl (lv_at hl 1 rfl) ?_
  refine lv_iconst (v := 3) hx hb dX7_drain_2 (by decide) ?_
  obtain ⟨q1, eq1, h⟩ := bd_h h
  refine x_callV (As := [.int x1, .int 3]) CX hM (kdYl hk_k rfl) (ly7 hk_k _) rfl lk_X7_39 (c_X7_of l E B hk_k eq1) ⟨rfl, rfl, by decide, by decide⟩ rfl hl.1 rfl (Nat.le_of_ble_eq_true rfl) dX7_drain_3 (fun H locs hM => ?_)
  refine W.eq (g2 := F0 m 6 ls [.int q1.1]) rfl ?_
  refine lv_istore_n (lv' := [(2, .int q1.1), (0, .ref (B + k)), (1, .int x1)]) hx hb dX7_drain_6 rfl hl (by decide) rfl (fun ls hl => ?_)
  refine lv_iconst (v := 0) hx hb dX7_drain_7 (by decide) ?_
  refine lv_istore_n (lv' := [(3, .int 0), (2, .int q1.1), (0, .ref (B + k)), (1, .int x1)]) hx hb dX7_drain_8 rfl hl (by decide) rfl (fun ls hl => ?_)
  exact L9 _ _ _ _ _  _ _ _ hM (lv_sub hl [2, 3, 1, 0] rfl) h
def rm_X7_isTooMuch : Jvm.Room := { frames := 2, cells := 0, slots := 0, locals := 45 }
set_option maxHeartbeats 4000000 in
set_option maxRecDepth 100000 in
theorem c_X7_isTooMuch (l : Launch) (E : xE) (B : Nat) {k : Nat} {x1 : Int32} {x2 : Int32} {σ : xM} {q : Int32 × xM} (hk_k : kdY k = 7) (h : F_X7_isTooMuch k x1 x2 σ = some q) : Met l yX7_isTooMuch (Cond.code yX7_isTooMuch cX7_isTooMuch 3 (some .boolean) :: AL) rm_X7_isTooMuch (xP E B 7 (layY E B) [.ref (B + k), .int x1, .int x2] σ) (xQ E B 7 (layY E B) (some (.int (bz q.1))) q.2) 0 0 (wA B 7) := by
  refine x_met (plainFor_of_name (by decide +kernel)) (Nat.le_of_ble_eq_true rfl) rfl ?_
  intro p e s m below meth c ls CX hr hlk hM hl
  have hx := CX.1.1
  have hb := CX.1.2.1
  unfold F_X7_isTooMuch at h
  refine lv_iconst (v := 2) hx hb dX7_isTooMuch_0 (by decide) ?_
  refine lv_aload_n hx hb dX7_isTooMuch_1 rfl (lv_at hl 0 rfl) ?_
  refine lv_iload_n hx hb dX7_isTooMuch_2 rfl (lv_at hl 1 rfl) ?_
  obtain ⟨q1, eq1, h⟩ := bd_h h
  refine x_callV (As := [.int x1]) CX hM (kdYl hk_k rfl) (ly7 hk_k _) rfl lk_X7_60 (c_X7_drain l E B hk_k eq1) ⟨rfl, rfl, by decide, by decide⟩ rfl hl.1 rfl (Nat.le_of_ble_eq_true rfl) dX7_isTooMuch_3 (fun H locs hM => ?_)
  refine W.eq (g2 := F0 m 6 ls [.int q1.1, .int 2]) rfl ?_
  refine lv_iload_n hx hb dX7_isTooMuch_6 rfl (lv_at hl 2 rfl) ?_
  refine lv_iadd hx hb dX7_isTooMuch_7 ?_
  refine lv_imul hx hb dX7_isTooMuch_8 ?_
  refine lv_aload_n hx hb dX7_isTooMuch_9 rfl (lv_at hl 0 rfl) ?_
  refine lv_iload_n hx hb dX7_isTooMuch_10 rfl (lv_at hl 1 rfl) ?_
  refine lv_iconst (v := 0) hx hb dX7_isTooMuch_11 (by decide) ?_
  obtain ⟨q2, eq2, h⟩ := bd_h h
  refine x_callV (As := [.int x1, .int 0]) CX hM (kdYl hk_k rfl) (ly7 hk_k _) rfl lk_X7_39 (c_X7_of l E B hk_k eq2) ⟨rfl, rfl, by decide, by decide⟩ rfl hl.1 rfl (Nat.le_of_ble_eq_true rfl) dX7_isTooMuch_12 (fun H locs hM => ?_)
  refine W.eq (g2 := F0 m 15 ls [.int q2.1, .int (2 * (q1.1 + x2))]) rfl ?_
  refine lv_icmp_le (tgt := 22) hx hb dX7_isTooMuch_15 (by decide) (fun c3 => ?_) (fun c3 => ?_)
  · replace h := it_h c3 h
    refine lv_iconst (v := 0) hx hb dX7_isTooMuch_22 (by decide) ?_
    obtain rfl := Option.some.inj h
    exact x_zret (y := 0) CX hr hlk hM rfl rfl dX7_isTooMuch_23
  · replace h := if_h c3 h
    refine lv_iconst (v := 1) hx hb dX7_isTooMuch_18 (by decide) ?_
    refine lv_goto (tgt := 23) hx hb dX7_isTooMuch_19 (by decide) ?_
    obtain rfl := Option.some.inj h
    exact x_zret (y := 1) CX hr hlk hM rfl rfl dX7_isTooMuch_23
def rm_X7_setLink : Jvm.Room := { frames := 3, cells := 0, slots := 0, locals := 67 }
set_option maxHeartbeats 4000000 in
set_option maxRecDepth 100000 in
theorem c_X7_setLink (l : Launch) (E : xE) (B : Nat) {k : Nat} {x1 : Int32} {x2 : Int32} {x3 : Int32} {σ : xM} {q : Int32 × xM} (hk_k : kdY k = 7) (h : F_X7_setLink k x1 x2 x3 σ = some q) : Met l yX7_setLink (Cond.code yX7_setLink cX7_setLink 5 (some .int) :: AL) rm_X7_setLink (xP E B 7 (layY E B) [.ref (B + k), .int x1, .int x2, .int x3] σ) (xQ E B 7 (layY E B) (some (.int q.1)) q.2) 0 0 (wA B 7) := by
  refine x_met (plainFor_of_name (by decide +kernel)) (Nat.le_of_ble_eq_true rfl) rfl ?_
  intro p e s m below meth c ls CX hr hlk hM hl
  have hx := CX.1.1
  have hb := CX.1.2.1
  unfold F_X7_setLink at h
  refine lv_aload_n hx hb dX7_setLink_0 rfl (lv_at hl 0 rfl) ?_
  refine lv_iload_n hx hb dX7_setLink_1 rfl (lv_at hl 1 rfl) ?_
  refine lv_iload_n hx hb dX7_setLink_2 rfl (lv_at hl 2 rfl) ?_
  obtain ⟨q1, eq1, h⟩ := bd_h h
  refine x_callV (As := [.int x1, .int x2]) CX hM (kdYl hk_k rfl) (ly7 hk_k _) rfl lk_X7_64 (c_X7_areRooms l E B hk_k eq1) ⟨rfl, rfl, by decide, by decide⟩ rfl hl.1 rfl (Nat.le_of_ble_eq_true rfl) dX7_setLink_3 (fun H locs hM => ?_)
  refine W.eq (g2 := F0 m 6 ls [.int (bz q1.1)]) rfl ?_
  refine lv_if_eq (tgt := 19) hx hb dX7_setLink_6 (by decide) (fun c2 => ?_) (fun c2 => ?_)
  · replace h := it_h c2 h
    refine lv_ldc (v := (-1000001)) hx hb CX.1.2.2.2.1 (x_hts CX wc_X7_46) dX7_setLink_19 ?_
    obtain rfl := Option.some.inj h
    exact x_iret CX hr hlk hM rfl dX7_setLink_21
  · replace h := if_h c2 h
    refine lv_iload_n hx hb dX7_setLink_9 rfl (lv_at hl 3 rfl) ?_
    refine lv_iconst (v := 0) hx hb dX7_setLink_10 (by decide) ?_
    refine lv_bipush (v := 50) hx hb dX7_setLink_11 (by decide) ?_
    obtain ⟨q3, eq3, h⟩ := bd_h h
    refine x_callS (As := [.int x3, .int 0, .int 50]) CX hM lk_X7_35 (c_X7_in l E B  eq3) ⟨rfl, rfl, by decide, by decide⟩ rfl hl.1 rfl (Nat.le_of_ble_eq_true rfl) dX7_setLink_13 (fun H locs hM => ?_)
    refine W.eq (g2 := F0 m 16 ls [.int (bz q3.1)]) rfl ?_
    refine lv_if_ne (tgt := 22) hx hb dX7_setLink_16 (by decide) (fun c4 => ?_) (fun c4 => ?_)
    · replace h := if_h c4 h
      refine lv_aload_n hx hb dX7_setLink_22 rfl (lv_at hl 0 rfl) ?_
      refine g7_0 CX hM hk_k wf_X7_7 dX7_setLink_23 ?_
      refine lv_bipush (v := 34) hx hb dX7_setLink_26 (by decide) ?_
      refine lv_bipush (v := 6) hx hb dX7_setLink_28 (by decide) ?_
      refine lv_iload_n hx hb dX7_setLink_30 rfl (lv_at hl 1 rfl) ?_
      refine lv_imul hx hb dX7_setLink_31 ?_
      refine lv_iadd hx hb dX7_setLink_32 ?_
      refine lv_iload_n hx hb dX7_setLink_33 rfl (lv_at hl 2 rfl) ?_
      refine lv_iadd hx hb dX7_setLink_34 ?_
      obtain ⟨g5, h⟩ := ck_h h
      refine x_iald CX hM (kdYl (kd7_f hk_k).1 rfl) (ly20 (kd7_f hk_k).1 _) g5 dX7_setLink_35 ?_
      refine lv_topi (fun x4_6 ex4_6 => ?_)
      replace h := nm_h ex4_6 h
      refine lv_istore (lv' := [(4, .int x4_6), (0, .ref (B + k)), (1, .int x1), (2, .int x2), (3, .int x3)]) hx hb dX7_setLink_36 hl (by decide) rfl (fun ls hl => ?_)
      refine lv_aload_n hx hb dX7_setLink_38 rfl (lv_at hl 1 rfl) ?_
      refine lv_iload_n hx hb dX7_setLink_39 rfl (lv_at hl 2 rfl) ?_
      refine lv_iload_n hx hb dX7_setLink_40 rfl (lv_at hl 4 rfl) ?_
      refine lv_iload hx hb dX7_setLink_41 (lv_at hl 0 rfl) ?_
      refine lv_isub hx hb dX7_setLink_43 ?_
      obtain ⟨q7, eq7, h⟩ := bd_h h
      refine x_callV (As := [.int x1, .int (x3 - x4_6)]) CX hM (kdYl hk_k rfl) (ly7 hk_k _) rfl lk_X7_68 (c_X7_isTooMuch l E B hk_k eq7) ⟨rfl, rfl, by decide, by decide⟩ rfl hl.1 rfl (Nat.le_of_ble_eq_true rfl) dX7_setLink_44 (fun H locs hM => ?_)
      refine W.eq (g2 := F0 m 47 ls [.int (bz q7.1)]) rfl ?_
      refine lv_if_ne (tgt := 62) hx hb dX7_setLink_47 (by decide) (fun c8 => ?_) (fun c8 => ?_)
      · replace h := if_h c8 h
        refine lv_ldc (v := (-1000002)) hx hb CX.1.2.2.2.1 (x_hts CX wc_X7_34) dX7_setLink_62 ?_
        obtain rfl := Option.some.inj h
        exact x_iret CX hr hlk hM rfl dX7_setLink_64
      · replace h := it_h c8 h
        refine lv_aload_n hx hb dX7_setLink_50 rfl (lv_at hl 1 rfl) ?_
        refine lv_iload_n hx hb dX7_setLink_51 rfl (lv_at hl 3 rfl) ?_
        refine lv_iload_n hx hb dX7_setLink_52 rfl (lv_at hl 4 rfl) ?_
        refine lv_iload hx hb dX7_setLink_53 (lv_at hl 0 rfl) ?_
        refine lv_isub hx hb dX7_setLink_55 ?_
        obtain ⟨q9, eq9, h⟩ := bd_h h
        refine x_callV (As := [.int x2, .int (x3 - x4_6)]) CX hM (kdYl hk_k rfl) (ly7 hk_k _) rfl lk_X7_68 (c_X7_isTooMuch l E B hk_k eq9) ⟨rfl, rfl, by decide, by decide⟩ rfl hl.1 rfl (Nat.le_of_ble_eq_true rfl) dX7_setLink_56 (fun H locs hM => ?_)
        refine W.eq (g2 := F0 m 59 ls [.int (bz q9.1)]) rfl ?_
        refine lv_if_eq (tgt := 65) hx hb dX7_setLink_59 (by decide) (fun c10 => ?_) (fun c10 => ?_)
        · replace h := it_h c10 h
          refine lv_aload_n hx hb dX7_setLink_65 rfl (lv_at hl 1 rfl) ?_
          obtain ⟨q11, eq11, h⟩ := bd_h h
          refine x_callV (As := []) CX hM (kdYl hk_k rfl) (ly7 hk_k _) rfl lk_X7_48 (c_X7_notes l E B hk_k eq11) ⟨rfl, rfl, by decide, by decide⟩ rfl hl.1 rfl (Nat.le_of_ble_eq_true rfl) dX7_setLink_66 (fun H locs hM => ?_)
          refine W.eq (g2 := F0 m 69 ls []) rfl ?_
          refine lv_aload_n hx hb dX7_setLink_69 rfl (lv_at hl 1 rfl) ?_
          refine g7_0 CX hM hk_k wf_X7_7 dX7_setLink_70 ?_
          refine lv_bipush (v := 34) hx hb dX7_setLink_73 (by decide) ?_
          refine lv_bipush (v := 6) hx hb dX7_setLink_75 (by decide) ?_
          refine lv_iload_n hx hb dX7_setLink_77 rfl (lv_at hl 2 rfl) ?_
          refine lv_imul hx hb dX7_setLink_78 ?_
          refine lv_iadd hx hb dX7_setLink_79 ?_
          refine lv_iload_n hx hb dX7_setLink_80 rfl (lv_at hl 3 rfl) ?_
          refine lv_iadd hx hb dX7_setLink_81 ?_
          refine lv_iload_n hx hb dX7_setLink_82 rfl (lv_at hl 4 rfl) ?_
          obtain ⟨g12, h⟩ := ck_h h
          refine x_iast CX hM (kdYl (kd7_f hk_k).1 rfl) (fun f => ly20 (kd7_f hk_k).1 f) g12 dX7_setLink_83 (fun H locs σ13 eσ13 hM => ?_)
          replace h := nm_h eσ13 h
          refine lv_aload_n hx hb dX7_setLink_84 rfl (lv_at hl 1 rfl) ?_
          refine g7_0 CX hM hk_k wf_X7_7 dX7_setLink_85 ?_
          refine lv_bipush (v := 34) hx hb dX7_setLink_88 (by decide) ?_
          refine lv_bipush (v := 6) hx hb dX7_setLink_90 (by decide) ?_
          refine lv_iload_n hx hb dX7_setLink_92 rfl (lv_at hl 3 rfl) ?_
          refine lv_imul hx hb dX7_setLink_93 ?_
          refine lv_iadd hx hb dX7_setLink_94 ?_
          refine lv_iload_n hx hb dX7_setLink_95 rfl (lv_at hl 2 rfl) ?_
          refine lv_iadd hx hb dX7_setLink_96 ?_
          refine lv_iload_n hx hb dX7_setLink_97 rfl (lv_at hl 4 rfl) ?_
          obtain ⟨g14, h⟩ := ck_h h
          refine x_iast CX hM (kdYl (kd7_f hk_k).1 rfl) (fun f => ly20 (kd7_f hk_k).1 f) g14 dX7_setLink_98 (fun H locs σ15 eσ15 hM => ?_)
          replace h := nm_h eσ15 h
          refine lv_iload hx hb dX7_setLink_99 (lv_at hl 0 rfl) ?_
          obtain rfl := Option.some.inj h
          exact x_iret CX hr hlk hM rfl dX7_setLink_101
        · replace h := if_h c10 h
          refine lv_ldc (v := (-1000002)) hx hb CX.1.2.2.2.1 (x_hts CX wc_X7_34) dX7_setLink_62 ?_
          obtain rfl := Option.some.inj h
          exact x_iret CX hr hlk hM rfl dX7_setLink_64
    · replace h := it_h c4 h
      refine lv_ldc (v := (-1000001)) hx hb CX.1.2.2.2.1 (x_hts CX wc_X7_46) dX7_setLink_19 ?_
      obtain rfl := Option.some.inj h
      exact x_iret CX hr hlk hM rfl dX7_setLink_21
def rm_X7_link : Jvm.Room := { frames := 3, cells := 0, slots := 0, locals := 65 }
set_option maxHeartbeats 4000000 in
set_option maxRecDepth 100000 in
theorem c_X7_link (l : Launch) (E : xE) (B : Nat) {k : Nat} {x1 : Int32} {x2 : Int32} {σ : xM} {q : Int32 × xM} (hk_k : kdY k = 7) (h : F_X7_link k x1 x2 σ = some q) : Met l yX7_link (Cond.code yX7_link cX7_link 3 (some .int) :: AL) rm_X7_link (xP E B 7 (layY E B) [.ref (B + k), .int x1, .int x2] σ) (xQ E B 7 (layY E B) (some (.int q.1)) q.2) 0 0 (wA B 7) := by
  refine x_met (plainFor_of_name (by decide +kernel)) (Nat.le_of_ble_eq_true rfl) rfl ?_
  intro p e s m below meth c ls CX hr hlk hM hl
  have hx := CX.1.1
  have hb := CX.1.2.1
  unfold F_X7_link at h
  refine lv_aload_n hx hb dX7_link_0 rfl (lv_at hl 0 rfl) ?_
  refine lv_iload_n hx hb dX7_link_1 rfl (lv_at hl 1 rfl) ?_
  refine lv_iload_n hx hb dX7_link_2 rfl (lv_at hl 2 rfl) ?_
  obtain ⟨q1, eq1, h⟩ := bd_h h
  refine x_callV (As := [.int x1, .int x2]) CX hM (kdYl hk_k rfl) (ly7 hk_k _) rfl lk_X7_64 (c_X7_areRooms l E B hk_k eq1) ⟨rfl, rfl, by decide, by decide⟩ rfl hl.1 rfl (Nat.le_of_ble_eq_true rfl) dX7_link_3 (fun H locs hM => ?_)
  refine W.eq (g2 := F0 m 6 ls [.int (bz q1.1)]) rfl ?_
  refine lv_if_eq (tgt := 26) hx hb dX7_link_6 (by decide) (fun c2 => ?_) (fun c2 => ?_)
  · replace h := it_h c2 h
    refine lv_ldc (v := (-1000001)) hx hb CX.1.2.2.2.1 (x_hts CX wc_X7_46) dX7_link_26 ?_
    obtain rfl := Option.some.inj h
    exact x_iret CX hr hlk hM rfl dX7_link_28
  · replace h := if_h c2 h
    refine lv_aload_n hx hb dX7_link_9 rfl (lv_at hl 0 rfl) ?_
    refine g7_0 CX hM hk_k wf_X7_7 dX7_link_10 ?_
    refine lv_bipush (v := 34) hx hb dX7_link_13 (by decide) ?_
    refine lv_bipush (v := 6) hx hb dX7_link_15 (by decide) ?_
    refine lv_iload_n hx hb dX7_link_17 rfl (lv_at hl 1 rfl) ?_
    refine lv_imul hx hb dX7_link_18 ?_
    refine lv_iadd hx hb dX7_link_19 ?_
    refine lv_iload_n hx hb dX7_link_20 rfl (lv_at hl 2 rfl) ?_
    refine lv_iadd hx hb dX7_link_21 ?_
    obtain ⟨g3, h⟩ := ck_h h
    refine x_iald CX hM (kdYl (kd7_f hk_k).1 rfl) (ly20 (kd7_f hk_k).1 _) g3 dX7_link_22 ?_
    refine lv_goto (tgt := 28) hx hb dX7_link_23 (by decide) ?_
    obtain rfl := Option.some.inj h
    exact x_iret CX hr hlk hM rfl dX7_link_28
def rm_X7_setThermostat : Jvm.Room := { frames := 2, cells := 0, slots := 0, locals := 43 }
set_option maxHeartbeats 4000000 in
set_option maxRecDepth 100000 in
theorem c_X7_setThermostat (l : Launch) (E : xE) (B : Nat) {k : Nat} {x1 : Int32} {x2 : Int32} {x3 : Int32} {σ : xM} {q : Int32 × xM} (hk_k : kdY k = 7) (h : F_X7_setThermostat k x1 x2 x3 σ = some q) : Met l yX7_setThermostat (Cond.code yX7_setThermostat cX7_setThermostat 5 (some .int) :: AL) rm_X7_setThermostat (xP E B 7 (layY E B) [.ref (B + k), .int x1, .int x2, .int x3] σ) (xQ E B 7 (layY E B) (some (.int q.1)) q.2) 0 0 (wA B 7) := by
  refine x_met (plainFor_of_name (by decide +kernel)) (Nat.le_of_ble_eq_true rfl) rfl ?_
  intro p e s m below meth c ls CX hr hlk hM hl
  have hx := CX.1.1
  have hb := CX.1.2.1
  unfold F_X7_setThermostat at h
  have J64 : ∀ (v1 : Int32) (v2 : Int32) (v3 : Int32) (y0 : Int32) (σ : xM), ∀ (H : Heap) (locs : List Loc) (ls : Array Slot), xS E B 7 (layY E B) s σ H locs → lv_has ls 5 [(0, .ref (B + k)), (1, .int v1), (2, .int v2), (3, .int v3)] → F_X7_setThermostat_J64 k v1 v2 v3 y0 σ = some q → W p l e rm_X7_setThermostat s m ([.ref (B + k), .int x1, .int x2, .int x3] : List Value).toArray below meth c H locs 0 0 (MQ below (xQ E B 7 (layY E B) (some (.int q.1)) q.2) ([.ref (B + k), .int x1, .int x2, .int x3] : List Value).toArray s 0 0 (wA B 7)) (F0 m 64 ls [.int y0]) := by
    clear hM hl h
    intro v1 v2 v3 y0 σ  H locs ls hM hl h
    unfold F_X7_setThermostat_J64 at h
    refine lv_istore (lv' := [(4, .int y0), (0, .ref (B + k)), (1, .int v1), (2, .int v2), (3, .int v3)]) hx hb dX7_setThermostat_64 hl (by decide) rfl (fun ls hl => ?_)
    refine lv_aload_n hx hb dX7_setThermostat_66 rfl (lv_at hl 1 rfl) ?_
    refine lv_iload_n hx hb dX7_setThermostat_67 rfl (lv_at hl 2 rfl) ?_
    refine lv_iconst (v := 4) hx hb dX7_setThermostat_68 (by decide) ?_
    refine lv_iload_n hx hb dX7_setThermostat_69 rfl (lv_at hl 3 rfl) ?_
    obtain ⟨q10, eq10, h⟩ := bd_h h
    refine x_callV (As := [.int v1, .int 4, .int v2]) CX hM (kdYl hk_k rfl) (ly7 hk_k _) rfl lk_X7_51 (c_X7_puts l E B hk_k eq10) ⟨rfl, rfl, by decide, by decide⟩ rfl hl.1 rfl (Nat.le_of_ble_eq_true rfl) dX7_setThermostat_70 (fun H locs hM => ?_)
    refine W.eq (g2 := F0 m 73 ls []) rfl ?_
    refine lv_aload_n hx hb dX7_setThermostat_73 rfl (lv_at hl 1 rfl) ?_
    refine lv_iload_n hx hb dX7_setThermostat_74 rfl (lv_at hl 2 rfl) ?_
    refine lv_iconst (v := 5) hx hb dX7_setThermostat_75 (by decide) ?_
    refine lv_iload_n hx hb dX7_setThermostat_76 rfl (lv_at hl 4 rfl) ?_
    obtain ⟨q11, eq11, h⟩ := bd_h h
    refine x_callV (As := [.int v1, .int 5, .int v3]) CX hM (kdYl hk_k rfl) (ly7 hk_k _) rfl lk_X7_51 (c_X7_puts l E B hk_k eq11) ⟨rfl, rfl, by decide, by decide⟩ rfl hl.1 rfl (Nat.le_of_ble_eq_true rfl) dX7_setThermostat_77 (fun H locs hM => ?_)
    refine W.eq (g2 := F0 m 80 ls []) rfl ?_
    refine lv_iload hx hb dX7_setThermostat_80 (lv_at hl 0 rfl) ?_
    refine lv_if_eq (tgt := 89) hx hb dX7_setThermostat_82 (by decide) (fun c12 => ?_) (fun c12 => ?_)
    · replace h := it_h c12 h
      refine lv_iconst (v := 1) hx hb dX7_setThermostat_89 (by decide) ?_
      obtain rfl := Option.some.inj h
      exact x_iret CX hr hlk hM rfl dX7_setThermostat_90
    · replace h := if_h c12 h
      refine lv_iconst (v := 0) hx hb dX7_setThermostat_85 (by decide) ?_
      refine lv_goto (tgt := 90) hx hb dX7_setThermostat_86 (by decide) ?_
      obtain rfl := Option.some.inj h
      exact x_iret CX hr hlk hM rfl dX7_setThermostat_90
  have J63 : ∀ (v1 : Int32) (v2 : Int32) (v3 : Int32) (σ : xM), ∀ (H : Heap) (locs : List Loc) (ls : Array Slot), xS E B 7 (layY E B) s σ H locs → lv_has ls 5 [(0, .ref (B + k)), (1, .int v1), (2, .int v2), (3, .int v3)] → F_X7_setThermostat_J63 k v1 v2 v3 σ = some q → W p l e rm_X7_setThermostat s m ([.ref (B + k), .int x1, .int x2, .int x3] : List Value).toArray below meth c H locs 0 0 (MQ below (xQ E B 7 (layY E B) (some (.int q.1)) q.2) ([.ref (B + k), .int x1, .int x2, .int x3] : List Value).toArray s 0 0 (wA B 7)) (F0 m 63 ls []) := by
    clear hM hl h
    intro v1 v2 v3 σ  H locs ls hM hl h
    unfold F_X7_setThermostat_J63 at h
    refine lv_iconst (v := 0) hx hb dX7_setThermostat_63 (by decide) ?_
    exact J64 _ _ _ _ _  _ _ _ hM (lv_sub hl [0, 1, 2, 3] rfl) h
  refine lv_aload_n hx hb dX7_setThermostat_0 rfl (lv_at hl 0 rfl) ?_
  refine lv_iload_n hx hb dX7_setThermostat_1 rfl (lv_at hl 1 rfl) ?_
  obtain ⟨q1, eq1, h⟩ := bd_h h
  refine x_callV (As := [.int x1]) CX hM (kdYl hk_k rfl) (ly7 hk_k _) rfl lk_X7_56 (c_X7_isRoom l E B hk_k eq1) ⟨rfl, rfl, by decide, by decide⟩ rfl hl.1 rfl (Nat.le_of_ble_eq_true rfl) dX7_setThermostat_2 (fun H locs hM => ?_)
  refine W.eq (g2 := F0 m 5 ls [.int (bz q1.1)]) rfl ?_
  refine lv_if_eq (tgt := 32) hx hb dX7_setThermostat_5 (by decide) (fun c2 => ?_) (fun c2 => ?_)
  · replace h := it_h c2 h
    refine lv_ldc (v := (-1000001)) hx hb CX.1.2.2.2.1 (x_hts CX wc_X7_46) dX7_setThermostat_32 ?_
    obtain rfl := Option.some.inj h
    exact x_iret CX hr hlk hM rfl dX7_setThermostat_34
  · replace h := if_h c2 h
    refine lv_iload_n hx hb dX7_setThermostat_8 rfl (lv_at hl 2 rfl) ?_
    refine lv_sipush (v := 5000) hx hb dX7_setThermostat_9 (by decide) ?_
    refine lv_ldc (v := 35000) hx hb CX.1.2.2.2.1 (x_hts CX wc_X7_71) dX7_setThermostat_12 ?_
    obtain ⟨q3, eq3, h⟩ := bd_h h
    refine x_callS (As := [.int x2, .int 5000, .int 35000]) CX hM lk_X7_35 (c_X7_in l E B  eq3) ⟨rfl, rfl, by decide, by decide⟩ rfl hl.1 rfl (Nat.le_of_ble_eq_true rfl) dX7_setThermostat_14 (fun H locs hM => ?_)
    refine W.eq (g2 := F0 m 17 ls [.int (bz q3.1)]) rfl ?_
    refine lv_if_eq (tgt := 32) hx hb dX7_setThermostat_17 (by decide) (fun c4 => ?_) (fun c4 => ?_)
    · replace h := it_h c4 h
      refine lv_ldc (v := (-1000001)) hx hb CX.1.2.2.2.1 (x_hts CX wc_X7_46) dX7_setThermostat_32 ?_
      obtain rfl := Option.some.inj h
      exact x_iret CX hr hlk hM rfl dX7_setThermostat_34
    · replace h := if_h c4 h
      refine lv_iload_n hx hb dX7_setThermostat_20 rfl (lv_at hl 3 rfl) ?_
      refine lv_bipush (v := 100) hx hb dX7_setThermostat_21 (by decide) ?_
      refine lv_sipush (v := 5000) hx hb dX7_setThermostat_23 (by decide) ?_
      obtain ⟨q5, eq5, h⟩ := bd_h h
      refine x_callS (As := [.int x3, .int 100, .int 5000]) CX hM lk_X7_35 (c_X7_in l E B  eq5) ⟨rfl, rfl, by decide, by decide⟩ rfl hl.1 rfl (Nat.le_of_ble_eq_true rfl) dX7_setThermostat_26 (fun H locs hM => ?_)
      refine W.eq (g2 := F0 m 29 ls [.int (bz q5.1)]) rfl ?_
      refine lv_if_ne (tgt := 35) hx hb dX7_setThermostat_29 (by decide) (fun c6 => ?_) (fun c6 => ?_)
      · replace h := if_h c6 h
        refine lv_aload_n hx hb dX7_setThermostat_35 rfl (lv_at hl 0 rfl) ?_
        obtain ⟨q7, eq7, h⟩ := bd_h h
        refine x_callV (As := []) CX hM (kdYl hk_k rfl) (ly7 hk_k _) rfl lk_X7_48 (c_X7_notes l E B hk_k eq7) ⟨rfl, rfl, by decide, by decide⟩ rfl hl.1 rfl (Nat.le_of_ble_eq_true rfl) dX7_setThermostat_36 (fun H locs hM => ?_)
        refine W.eq (g2 := F0 m 39 ls []) rfl ?_
        refine lv_aload_n hx hb dX7_setThermostat_39 rfl (lv_at hl 0 rfl) ?_
        refine lv_iload_n hx hb dX7_setThermostat_40 rfl (lv_at hl 1 rfl) ?_
        refine lv_iconst (v := 4) hx hb dX7_setThermostat_41 (by decide) ?_
        obtain ⟨q8, eq8, h⟩ := bd_h h
        refine x_callV (As := [.int x1, .int 4]) CX hM (kdYl hk_k rfl) (ly7 hk_k _) rfl lk_X7_39 (c_X7_of l E B hk_k eq8) ⟨rfl, rfl, by decide, by decide⟩ rfl hl.1 rfl (Nat.le_of_ble_eq_true rfl) dX7_setThermostat_42 (fun H locs hM => ?_)
        refine W.eq (g2 := F0 m 45 ls [.int q8.1]) rfl ?_
        refine lv_iload_n hx hb dX7_setThermostat_45 rfl (lv_at hl 2 rfl) ?_
        refine lv_icmp_ne (tgt := 63) hx hb dX7_setThermostat_46 (by decide) (fun c9 => ?_) (fun c9 => ?_)
        · replace h := if_h c9 h
          exact J63 _ _ _ _  _ _ _ hM (lv_sub hl [0, 1, 2, 3] rfl) h
        · replace h := it_h c9 h
          refine lv_aload_n hx hb dX7_setThermostat_49 rfl (lv_at hl 0 rfl) ?_
          refine lv_iload_n hx hb dX7_setThermostat_50 rfl (lv_at hl 1 rfl) ?_
          refine lv_iconst (v := 5) hx hb dX7_setThermostat_51 (by decide) ?_
          obtain ⟨q13, eq13, h⟩ := bd_h h
          refine x_callV (As := [.int x1, .int 5]) CX hM (kdYl hk_k rfl) (ly7 hk_k _) rfl lk_X7_39 (c_X7_of l E B hk_k eq13) ⟨rfl, rfl, by decide, by decide⟩ rfl hl.1 rfl (Nat.le_of_ble_eq_true rfl) dX7_setThermostat_52 (fun H locs hM => ?_)
          refine W.eq (g2 := F0 m 55 ls [.int q13.1]) rfl ?_
          refine lv_iload_n hx hb dX7_setThermostat_55 rfl (lv_at hl 3 rfl) ?_
          refine lv_icmp_ne (tgt := 63) hx hb dX7_setThermostat_56 (by decide) (fun c14 => ?_) (fun c14 => ?_)
          · replace h := if_h c14 h
            exact J63 _ _ _ _  _ _ _ hM (lv_sub hl [0, 1, 2, 3] rfl) h
          · replace h := it_h c14 h
            refine lv_iconst (v := 1) hx hb dX7_setThermostat_59 (by decide) ?_
            refine lv_goto (tgt := 64) hx hb dX7_setThermostat_60 (by decide) ?_
            exact J64 _ _ _ _ _  _ _ _ hM (lv_sub hl [0, 1, 2, 3] rfl) h
      · replace h := it_h c6 h
        refine lv_ldc (v := (-1000001)) hx hb CX.1.2.2.2.1 (x_hts CX wc_X7_46) dX7_setThermostat_32 ?_
        obtain rfl := Option.some.inj h
        exact x_iret CX hr hlk hM rfl dX7_setThermostat_34
def rm_X7_isNumber : Jvm.Room := { frames := 1, cells := 0, slots := 0, locals := 22 }
set_option maxHeartbeats 4000000 in
set_option maxRecDepth 100000 in
theorem c_X7_isNumber (l : Launch) (E : xE) (B : Nat) {x0 : Int32} {x1 : Int32} {σ : xM} {q : Int32 × xM}  (h : F_X7_isNumber x0 x1 σ = some q) : Met l yX7_isNumber (Cond.code yX7_isNumber cX7_isNumber 2 (some .boolean) :: AL) rm_X7_isNumber (xP E B 7 (layY E B) [.int x0, .int x1] σ) (xQ E B 7 (layY E B) (some (.int (bz q.1))) q.2) 0 0 (wA B 7) := by
  refine x_met (plainFor_of_name (by decide +kernel)) (Nat.le_of_ble_eq_true rfl) rfl ?_
  intro p e s m below meth c ls CX hr hlk hM hl
  have hx := CX.1.1
  have hb := CX.1.2.1
  unfold F_X7_isNumber at h
  refine lv_iload_n hx hb dX7_isNumber_0 rfl (lv_at hl 0 rfl) ?_
  by_cases c1 : x0 = 0
  · replace h := it_h c1 h
    refine lv_tableIn (off := 43) (tgt := 44) hx hb dX7_isNumber_1 (by rw [c1]; decide) (by rw [c1]; decide) (by rw [c1]; decide) (by decide) ?_
    refine lv_iload_n hx hb dX7_isNumber_44 rfl (lv_at hl 1 rfl) ?_
    refine lv_iconst (v := 1) hx hb dX7_isNumber_45 (by decide) ?_
    refine lv_bipush (v := 100) hx hb dX7_isNumber_46 (by decide) ?_
    obtain ⟨q2, eq2, h⟩ := bd_h h
    refine x_callS (As := [.int x1, .int 1, .int 100]) CX hM lk_X7_35 (c_X7_in l E B  eq2) ⟨rfl, rfl, by decide, by decide⟩ rfl hl.1 rfl (Nat.le_of_ble_eq_true rfl) dX7_isNumber_48 (fun H locs hM => ?_)
    refine W.eq (g2 := F0 m 51 ls [.int (bz q2.1)]) rfl ?_
    obtain rfl := Option.some.inj h
    exact x_zret (y := q2.1) CX hr hlk hM rfl rfl dX7_isNumber_51
  · replace h := if_h c1 h
    by_cases c3 : x0 = 1
    · replace h := it_h c3 h
      refine lv_tableIn (off := 51) (tgt := 52) hx hb dX7_isNumber_1 (by rw [c3]; decide) (by rw [c3]; decide) (by rw [c3]; decide) (by decide) ?_
      refine lv_iload_n hx hb dX7_isNumber_52 rfl (lv_at hl 1 rfl) ?_
      refine lv_iconst (v := 1) hx hb dX7_isNumber_53 (by decide) ?_
      refine lv_sipush (v := 9999) hx hb dX7_isNumber_54 (by decide) ?_
      obtain ⟨q4, eq4, h⟩ := bd_h h
      refine x_callS (As := [.int x1, .int 1, .int 9999]) CX hM lk_X7_35 (c_X7_in l E B  eq4) ⟨rfl, rfl, by decide, by decide⟩ rfl hl.1 rfl (Nat.le_of_ble_eq_true rfl) dX7_isNumber_57 (fun H locs hM => ?_)
      refine W.eq (g2 := F0 m 60 ls [.int (bz q4.1)]) rfl ?_
      obtain rfl := Option.some.inj h
      exact x_zret (y := q4.1) CX hr hlk hM rfl rfl dX7_isNumber_60
    · replace h := if_h c3 h
      by_cases c5 : x0 = 2
      · replace h := it_h c5 h
        refine lv_tableIn (off := 60) (tgt := 61) hx hb dX7_isNumber_1 (by rw [c5]; decide) (by rw [c5]; decide) (by rw [c5]; decide) (by decide) ?_
        refine lv_iload_n hx hb dX7_isNumber_61 rfl (lv_at hl 1 rfl) ?_
        refine lv_iconst (v := 1) hx hb dX7_isNumber_62 (by decide) ?_
        refine lv_bipush (v := 50) hx hb dX7_isNumber_63 (by decide) ?_
        obtain ⟨q6, eq6, h⟩ := bd_h h
        refine x_callS (As := [.int x1, .int 1, .int 50]) CX hM lk_X7_35 (c_X7_in l E B  eq6) ⟨rfl, rfl, by decide, by decide⟩ rfl hl.1 rfl (Nat.le_of_ble_eq_true rfl) dX7_isNumber_65 (fun H locs hM => ?_)
        refine W.eq (g2 := F0 m 68 ls [.int (bz q6.1)]) rfl ?_
        obtain rfl := Option.some.inj h
        exact x_zret (y := q6.1) CX hr hlk hM rfl rfl dX7_isNumber_68
      · replace h := if_h c5 h
        by_cases c7 : x0 = 3
        · replace h := it_h c7 h
          refine lv_tableIn (off := 68) (tgt := 69) hx hb dX7_isNumber_1 (by rw [c7]; decide) (by rw [c7]; decide) (by rw [c7]; decide) (by decide) ?_
          refine lv_iload_n hx hb dX7_isNumber_69 rfl (lv_at hl 1 rfl) ?_
          refine lv_iconst (v := 0) hx hb dX7_isNumber_70 (by decide) ?_
          refine lv_bipush (v := 120) hx hb dX7_isNumber_71 (by decide) ?_
          obtain ⟨q8, eq8, h⟩ := bd_h h
          refine x_callS (As := [.int x1, .int 0, .int 120]) CX hM lk_X7_35 (c_X7_in l E B  eq8) ⟨rfl, rfl, by decide, by decide⟩ rfl hl.1 rfl (Nat.le_of_ble_eq_true rfl) dX7_isNumber_73 (fun H locs hM => ?_)
          refine W.eq (g2 := F0 m 76 ls [.int (bz q8.1)]) rfl ?_
          obtain rfl := Option.some.inj h
          exact x_zret (y := q8.1) CX hr hlk hM rfl rfl dX7_isNumber_76
        · replace h := if_h c7 h
          by_cases c9 : x0 = 4
          · replace h := it_h c9 h
            refine lv_tableIn (off := 76) (tgt := 77) hx hb dX7_isNumber_1 (by rw [c9]; decide) (by rw [c9]; decide) (by rw [c9]; decide) (by decide) ?_
            refine lv_iload_n hx hb dX7_isNumber_77 rfl (lv_at hl 1 rfl) ?_
            refine lv_iconst (v := 0) hx hb dX7_isNumber_78 (by decide) ?_
            refine lv_bipush (v := 100) hx hb dX7_isNumber_79 (by decide) ?_
            obtain ⟨q10, eq10, h⟩ := bd_h h
            refine x_callS (As := [.int x1, .int 0, .int 100]) CX hM lk_X7_35 (c_X7_in l E B  eq10) ⟨rfl, rfl, by decide, by decide⟩ rfl hl.1 rfl (Nat.le_of_ble_eq_true rfl) dX7_isNumber_81 (fun H locs hM => ?_)
            refine W.eq (g2 := F0 m 84 ls [.int (bz q10.1)]) rfl ?_
            obtain rfl := Option.some.inj h
            exact x_zret (y := q10.1) CX hr hlk hM rfl rfl dX7_isNumber_84
          · replace h := if_h c9 h
            by_cases c11 : x0 = 5
            · replace h := it_h c11 h
              refine lv_tableIn (off := 84) (tgt := 85) hx hb dX7_isNumber_1 (by rw [c11]; decide) (by rw [c11]; decide) (by rw [c11]; decide) (by decide) ?_
              refine lv_iload_n hx hb dX7_isNumber_85 rfl (lv_at hl 1 rfl) ?_
              refine lv_sipush (v := 20000) hx hb dX7_isNumber_86 (by decide) ?_
              refine lv_ldc (v := 90000) hx hb CX.1.2.2.2.1 (x_hts CX wc_X7_72) dX7_isNumber_89 ?_
              obtain ⟨q12, eq12, h⟩ := bd_h h
              refine x_callS (As := [.int x1, .int 20000, .int 90000]) CX hM lk_X7_35 (c_X7_in l E B  eq12) ⟨rfl, rfl, by decide, by decide⟩ rfl hl.1 rfl (Nat.le_of_ble_eq_true rfl) dX7_isNumber_91 (fun H locs hM => ?_)
              refine W.eq (g2 := F0 m 94 ls [.int (bz q12.1)]) rfl ?_
              obtain rfl := Option.some.inj h
              exact x_zret (y := q12.1) CX hr hlk hM rfl rfl dX7_isNumber_94
            · replace h := if_h c11 h
              by_cases c13 : x0 = 6
              · replace h := it_h c13 h
                refine lv_tableIn (off := 94) (tgt := 95) hx hb dX7_isNumber_1 (by rw [c13]; decide) (by rw [c13]; decide) (by rw [c13]; decide) (by decide) ?_
                refine lv_iload_n hx hb dX7_isNumber_95 rfl (lv_at hl 1 rfl) ?_
                refine lv_iconst (v := 1) hx hb dX7_isNumber_96 (by decide) ?_
                refine lv_bipush (v := 120) hx hb dX7_isNumber_97 (by decide) ?_
                obtain ⟨q14, eq14, h⟩ := bd_h h
                refine x_callS (As := [.int x1, .int 1, .int 120]) CX hM lk_X7_35 (c_X7_in l E B  eq14) ⟨rfl, rfl, by decide, by decide⟩ rfl hl.1 rfl (Nat.le_of_ble_eq_true rfl) dX7_isNumber_99 (fun H locs hM => ?_)
                refine W.eq (g2 := F0 m 102 ls [.int (bz q14.1)]) rfl ?_
                obtain rfl := Option.some.inj h
                exact x_zret (y := q14.1) CX hr hlk hM rfl rfl dX7_isNumber_102
              · replace h := if_h c13 h
                refine lv_tableOut (tgt := 103) hx hb dX7_isNumber_1 (tsw_out [0, 1, 2, 3, 4, 5, 6] (by decide) (by decide) (List.forall_mem_cons.mpr ⟨c1, (List.forall_mem_cons.mpr ⟨c3, (List.forall_mem_cons.mpr ⟨c5, (List.forall_mem_cons.mpr ⟨c7, (List.forall_mem_cons.mpr ⟨c9, (List.forall_mem_cons.mpr ⟨c11, (List.forall_mem_cons.mpr ⟨c13, (fun _ h => absurd h List.not_mem_nil)⟩)⟩)⟩)⟩)⟩)⟩)⟩)) (by decide) ?_
                refine lv_iconst (v := 0) hx hb dX7_isNumber_103 (by decide) ?_
                obtain rfl := Option.some.inj h
                exact x_zret (y := 0) CX hr hlk hM rfl rfl dX7_isNumber_104
def rm_X7_setNumber : Jvm.Room := { frames := 2, cells := 0, slots := 0, locals := 43 }
set_option maxHeartbeats 4000000 in
set_option maxRecDepth 100000 in
theorem c_X7_setNumber (l : Launch) (E : xE) (B : Nat) {k : Nat} {x1 : Int32} {x2 : Int32} {σ : xM} {q : Int32 × xM} (hk_k : kdY k = 7) (h : F_X7_setNumber k x1 x2 σ = some q) : Met l yX7_setNumber (Cond.code yX7_setNumber cX7_setNumber 4 (some .int) :: AL) rm_X7_setNumber (xP E B 7 (layY E B) [.ref (B + k), .int x1, .int x2] σ) (xQ E B 7 (layY E B) (some (.int q.1)) q.2) 0 0 (wA B 7) := by
  refine x_met (plainFor_of_name (by decide +kernel)) (Nat.le_of_ble_eq_true rfl) rfl ?_
  intro p e s m below meth c ls CX hr hlk hM hl
  have hx := CX.1.1
  have hb := CX.1.2.1
  unfold F_X7_setNumber at h
  refine lv_iload_n hx hb dX7_setNumber_0 rfl (lv_at hl 1 rfl) ?_
  refine lv_iload_n hx hb dX7_setNumber_1 rfl (lv_at hl 2 rfl) ?_
  obtain ⟨q1, eq1, h⟩ := bd_h h
  refine x_callS (As := [.int x1, .int x2]) CX hM lk_X7_73 (c_X7_isNumber l E B  eq1) ⟨rfl, rfl, by decide, by decide⟩ rfl hl.1 rfl (Nat.le_of_ble_eq_true rfl) dX7_setNumber_2 (fun H locs hM => ?_)
  refine W.eq (g2 := F0 m 5 ls [.int (bz q1.1)]) rfl ?_
  refine lv_if_ne (tgt := 11) hx hb dX7_setNumber_5 (by decide) (fun c2 => ?_) (fun c2 => ?_)
  · replace h := if_h c2 h
    refine lv_aload_n hx hb dX7_setNumber_11 rfl (lv_at hl 0 rfl) ?_
    obtain ⟨q3, eq3, h⟩ := bd_h h
    refine x_callV (As := []) CX hM (kdYl hk_k rfl) (ly7 hk_k _) rfl lk_X7_48 (c_X7_notes l E B hk_k eq3) ⟨rfl, rfl, by decide, by decide⟩ rfl hl.1 rfl (Nat.le_of_ble_eq_true rfl) dX7_setNumber_12 (fun H locs hM => ?_)
    refine W.eq (g2 := F0 m 15 ls []) rfl ?_
    refine lv_aload_n hx hb dX7_setNumber_15 rfl (lv_at hl 0 rfl) ?_
    refine g7_0 CX hM hk_k wf_X7_7 dX7_setNumber_16 ?_
    refine lv_iload_n hx hb dX7_setNumber_19 rfl (lv_at hl 1 rfl) ?_
    obtain ⟨g4, h⟩ := ck_h h
    refine x_iald CX hM (kdYl (kd7_f hk_k).1 rfl) (ly20 (kd7_f hk_k).1 _) g4 dX7_setNumber_20 ?_
    refine lv_topi (fun x3_5 ex3_5 => ?_)
    replace h := nm_h ex3_5 h
    refine lv_istore_n (lv' := [(3, .int x3_5), (0, .ref (B + k)), (1, .int x1), (2, .int x2)]) hx hb dX7_setNumber_21 rfl hl (by decide) rfl (fun ls hl => ?_)
    refine lv_aload_n hx hb dX7_setNumber_22 rfl (lv_at hl 1 rfl) ?_
    refine g7_0 CX hM hk_k wf_X7_7 dX7_setNumber_23 ?_
    refine lv_iload_n hx hb dX7_setNumber_26 rfl (lv_at hl 2 rfl) ?_
    refine lv_iload_n hx hb dX7_setNumber_27 rfl (lv_at hl 3 rfl) ?_
    obtain ⟨g6, h⟩ := ck_h h
    refine x_iast CX hM (kdYl (kd7_f hk_k).1 rfl) (fun f => ly20 (kd7_f hk_k).1 f) g6 dX7_setNumber_28 (fun H locs σ7 eσ7 hM => ?_)
    replace h := nm_h eσ7 h
    refine lv_iload_n hx hb dX7_setNumber_29 rfl (lv_at hl 0 rfl) ?_
    obtain rfl := Option.some.inj h
    exact x_iret CX hr hlk hM rfl dX7_setNumber_30
  · replace h := it_h c2 h
    refine lv_ldc (v := (-1000001)) hx hb CX.1.2.2.2.1 (x_hts CX wc_X7_46) dX7_setNumber_8 ?_
    obtain rfl := Option.some.inj h
    exact x_iret CX hr hlk hM rfl dX7_setNumber_10
