def rm_X3_isBladeCold : Jvm.Room := { frames := 0, cells := 0, slots := 0, locals := 0 }
set_option maxHeartbeats 4000000 in
set_option maxRecDepth 100000 in
theorem c_X3_isBladeCold (l : Launch) (E : xE) (B : Nat) {k : Nat} {σ : xM} {q : Int32 × xM} (hk_k : kd k = 3) (h : F_X3_isBladeCold k σ = some q) : Met l yX3_isBladeCold (Cond.code yX3_isBladeCold cX3_isBladeCold 1 (some .boolean) :: AL) rm_X3_isBladeCold (xP E B 160 (layX E B) [.ref (B + k)] σ) (xQ E B 160 (layX E B) (some (.int (bz q.1))) q.2) 0 0 (wA B 160) := by
  refine x_met (plainFor_of_name (by decide +kernel)) (Nat.le_of_ble_eq_true rfl) rfl ?_
  intro p e s m below meth c ls CX hr hlk hM hl
  have hx := CX.1.1
  have hb := CX.1.2.1
  unfold F_X3_isBladeCold at h
  refine lv_aload_n hx hb dX3_isBladeCold_0 rfl (lv_at hl 0 rfl) ?_
  refine g3_7 CX hM hk_k wf_X3_41 dX3_isBladeCold_1 ?_
  refine lv_aload_n hx hb dX3_isBladeCold_4 rfl (lv_at hl 0 rfl) ?_
  refine g3_5 CX hM hk_k wf_X3_31 dX3_isBladeCold_5 ?_
  refine lv_aload_n hx hb dX3_isBladeCold_8 rfl (lv_at hl 0 rfl) ?_
  refine g3_6 CX hM hk_k wf_X3_34 dX3_isBladeCold_9 ?_
  refine lv_isub hx hb dX3_isBladeCold_12 ?_
  refine lv_icmp_gt (tgt := 20) hx hb dX3_isBladeCold_13 (by decide) (fun c1 => ?_) (fun c1 => ?_)
  · replace h := it_h c1 h
    refine lv_iconst (v := 0) hx hb dX3_isBladeCold_20 (by decide) ?_
    obtain rfl := Option.some.inj h
    exact x_zret (y := 0) CX hr hlk hM rfl rfl dX3_isBladeCold_21
  · replace h := if_h c1 h
    refine lv_iconst (v := 1) hx hb dX3_isBladeCold_16 (by decide) ?_
    refine lv_goto (tgt := 21) hx hb dX3_isBladeCold_17 (by decide) ?_
    obtain rfl := Option.some.inj h
    exact x_zret (y := 1) CX hr hlk hM rfl rfl dX3_isBladeCold_21
def rm_X1_close : Jvm.Room := { frames := 1, cells := 0, slots := 0, locals := 21 }
set_option maxHeartbeats 4000000 in
set_option maxRecDepth 100000 in
theorem c_X1_close (l : Launch) (E : xE) (B : Nat) {k : Nat} {r1 : Nat} {σ : xM} {q : Unit × xM} (hk_k : kd k = 1) (hk_r1 : kd r1 = 3) (h : F_X1_close k r1 σ = some q) : Met l yX1_close (Cond.code yX1_close cX1_close 2 none :: AL) rm_X1_close (xP E B 160 (layX E B) [.ref (B + k), .ref (B + r1)] σ) (xQ E B 160 (layX E B) none q.2) 0 0 (wA B 160) := by
  refine x_met (plainFor_of_name (by decide +kernel)) (Nat.le_of_ble_eq_true rfl) rfl ?_
  intro p e s m below meth c ls CX hr hlk hM hl
  have hx := CX.1.1
  have hb := CX.1.2.1
  unfold F_X1_close at h
  have J38 : ∀ (σ : xM), ∀ (H : Heap) (locs : List Loc) (ls : Array Slot), xS E B 160 (layX E B) s σ H locs → lv_has ls 2 [(0, .ref (B + k)), (1, .ref (B + r1))] → F_X1_close_J38 k r1  σ = some q → W p l e rm_X1_close s m ([.ref (B + k), .ref (B + r1)] : List Value).toArray below meth c H locs 0 0 (MQ below (xQ E B 160 (layX E B) none q.2) ([.ref (B + k), .ref (B + r1)] : List Value).toArray s 0 0 (wA B 160)) (F0 m 38 ls []) := by
    clear hM hl h
    intro  σ  H locs ls hM hl h
    unfold F_X1_close_J38 at h
    refine lv_aload_n hx hb dX1_close_38 rfl (lv_at hl 1 rfl) ?_
    refine lv_iconst (v := 1) hx hb dX1_close_39 (by decide) ?_
    refine p3_8 (y := 1) CX hM hk_r1 wf_X1_129 dX1_close_40 (fun H locs σ2 eσ2 hM => ?_)
    replace h := nm_h eσ2 h
    refine lv_aload_n hx hb dX1_close_43 rfl (lv_at hl 1 rfl) ?_
    refine lv_dup hx hb dX1_close_44 rfl ?_
    refine g3_13 CX hM hk_r1 wf_X1_155 dX1_close_45 ?_
    refine lv_iconst (v := 1) hx hb dX1_close_48 (by decide) ?_
    refine lv_iadd hx hb dX1_close_49 ?_
    refine p3_13 (y := ((σ2 r1 13) + 1)) CX hM hk_r1 wf_X1_155 dX1_close_50 (fun H locs σ3 eσ3 hM => ?_)
    replace h := nm_h eσ3 h
    refine lv_aload_n hx hb dX1_close_53 rfl (lv_at hl 1 rfl) ?_
    refine lv_aload_n hx hb dX1_close_54 rfl (lv_at hl 0 rfl) ?_
    refine g1_5 CX hM hk_k wf_X1_49 dX1_close_55 ?_
    refine p3_14 (y := (σ3 k 5)) CX hM hk_r1 wf_X1_158 dX1_close_58 (fun H locs σ4 eσ4 hM => ?_)
    replace h := nm_h eσ4 h
    refine lv_aload_n hx hb dX1_close_61 rfl (lv_at hl 1 rfl) ?_
    refine lv_dup hx hb dX1_close_62 rfl ?_
    refine g3_11 CX hM hk_r1 wf_X1_161 dX1_close_63 ?_
    refine lv_aload_n hx hb dX1_close_66 rfl (lv_at hl 1 rfl) ?_
    refine g3_2 CX hM hk_r1 wf_X1_164 dX1_close_67 ?_
    refine lv_iadd hx hb dX1_close_70 ?_
    refine p3_11 (y := ((σ4 r1 11) + (σ4 r1 2))) CX hM hk_r1 wf_X1_161 dX1_close_71 (fun H locs σ5 eσ5 hM => ?_)
    replace h := nm_h eσ5 h
    refine lv_aload_n hx hb dX1_close_74 rfl (lv_at hl 1 rfl) ?_
    refine g3_11 CX hM hk_r1 wf_X1_161 dX1_close_75 ?_
    refine lv_aload_n hx hb dX1_close_78 rfl (lv_at hl 0 rfl) ?_
    refine lv_iconst (v := 1) hx hb dX1_close_79 (by decide) ?_
    obtain ⟨q6, eq6, h⟩ := bd_h h
    refine x_callV (As := [.int 1]) CX hM (kdl hk_k rfl) (ly1 hk_k _) rfl lk_X1_83 (c_X1_number l E B hk_k eq6) ⟨rfl, rfl, by decide, by decide⟩ rfl hl.1 rfl (Nat.le_of_ble_eq_true rfl) dX1_close_80 (fun H locs hM => ?_)
    refine W.eq (g2 := F0 m 83 ls [.int q6.1, .int (σ5 r1 11)]) rfl ?_
    refine lv_icmp_lt (tgt := 91) hx hb dX1_close_83 (by decide) (fun c7 => ?_) (fun c7 => ?_)
    · replace h := it_h c7 h
      obtain rfl := Option.some.inj h
      exact x_vret CX hr hlk hM rfl dX1_close_91
    · replace h := if_h c7 h
      refine lv_aload_n hx hb dX1_close_86 rfl (lv_at hl 1 rfl) ?_
      refine lv_iconst (v := 1) hx hb dX1_close_87 (by decide) ?_
      refine p3_9 (y := 1) CX hM hk_r1 wf_X1_167 dX1_close_88 (fun H locs σ8 eσ8 hM => ?_)
      replace h := nm_h eσ8 h
      obtain rfl := Option.some.inj h
      exact x_vret CX hr hlk hM rfl dX1_close_91
  refine lv_aload_n hx hb dX1_close_0 rfl (lv_at hl 1 rfl) ?_
  refine g3_13 CX hM hk_r1 wf_X1_155 dX1_close_1 ?_
  refine lv_if_le (tgt := 38) hx hb dX1_close_4 (by decide) (fun c1 => ?_) (fun c1 => ?_)
  · replace h := it_h c1 h
    exact J38 _  _ _ _ hM (lv_sub hl [0, 1] rfl) h
  · replace h := if_h c1 h
    refine lv_aload_n hx hb dX1_close_7 rfl (lv_at hl 0 rfl) ?_
    refine g1_5 CX hM hk_k wf_X1_49 dX1_close_8 ?_
    refine lv_aload_n hx hb dX1_close_11 rfl (lv_at hl 1 rfl) ?_
    refine g3_14 CX hM hk_r1 wf_X1_158 dX1_close_12 ?_
    refine lv_isub hx hb dX1_close_15 ?_
    refine lv_aload_n hx hb dX1_close_16 rfl (lv_at hl 0 rfl) ?_
    refine lv_iconst (v := 3) hx hb dX1_close_17 (by decide) ?_
    obtain ⟨q9, eq9, h⟩ := bd_h h
    refine x_callV (As := [.int 3]) CX hM (kdl hk_k rfl) (ly1 hk_k _) rfl lk_X1_83 (c_X1_number l E B hk_k eq9) ⟨rfl, rfl, by decide, by decide⟩ rfl hl.1 rfl (Nat.le_of_ble_eq_true rfl) dX1_close_18 (fun H locs hM => ?_)
    refine W.eq (g2 := F0 m 21 ls [.int q9.1, .int ((σ k 5) - (σ r1 14))]) rfl ?_
    refine lv_icmp_ge (tgt := 38) hx hb dX1_close_21 (by decide) (fun c10 => ?_) (fun c10 => ?_)
    · replace h := it_h c10 h
      exact J38 _  _ _ _ hM (lv_sub hl [0, 1] rfl) h
    · replace h := if_h c10 h
      refine lv_aload_n hx hb dX1_close_24 rfl (lv_at hl 1 rfl) ?_
      refine lv_dup hx hb dX1_close_25 rfl ?_
      refine g3_15 CX hM hk_r1 wf_X1_91 dX1_close_26 ?_
      refine lv_aload_n hx hb dX1_close_29 rfl (lv_at hl 0 rfl) ?_
      refine lv_iconst (v := 4) hx hb dX1_close_30 (by decide) ?_
      obtain ⟨q11, eq11, h⟩ := bd_h h
      refine x_callV (As := [.int 4]) CX hM (kdl hk_k rfl) (ly1 hk_k _) rfl lk_X1_83 (c_X1_number l E B hk_k eq11) ⟨rfl, rfl, by decide, by decide⟩ rfl hl.1 rfl (Nat.le_of_ble_eq_true rfl) dX1_close_31 (fun H locs hM => ?_)
      refine W.eq (g2 := F0 m 34 ls [.int q11.1, .int (q9.2 r1 15), .ref (B + r1)]) rfl ?_
      refine lv_iadd hx hb dX1_close_34 ?_
      refine p3_15 (y := ((q9.2 r1 15) + q11.1)) CX hM hk_r1 wf_X1_91 dX1_close_35 (fun H locs σ12 eσ12 hM => ?_)
      replace h := nm_h eσ12 h
      exact J38 _  _ _ _ hM (lv_sub hl [0, 1] rfl) h
def rm_X3_isBladeHot : Jvm.Room := { frames := 0, cells := 0, slots := 0, locals := 0 }
set_option maxHeartbeats 4000000 in
set_option maxRecDepth 100000 in
theorem c_X3_isBladeHot (l : Launch) (E : xE) (B : Nat) {k : Nat} {σ : xM} {q : Int32 × xM} (hk_k : kd k = 3) (h : F_X3_isBladeHot k σ = some q) : Met l yX3_isBladeHot (Cond.code yX3_isBladeHot cX3_isBladeHot 1 (some .boolean) :: AL) rm_X3_isBladeHot (xP E B 160 (layX E B) [.ref (B + k)] σ) (xQ E B 160 (layX E B) (some (.int (bz q.1))) q.2) 0 0 (wA B 160) := by
  refine x_met (plainFor_of_name (by decide +kernel)) (Nat.le_of_ble_eq_true rfl) rfl ?_
  intro p e s m below meth c ls CX hr hlk hM hl
  have hx := CX.1.1
  have hb := CX.1.2.1
  unfold F_X3_isBladeHot at h
  refine lv_aload_n hx hb dX3_isBladeHot_0 rfl (lv_at hl 0 rfl) ?_
  refine g3_7 CX hM hk_k wf_X3_41 dX3_isBladeHot_1 ?_
  refine lv_aload_n hx hb dX3_isBladeHot_4 rfl (lv_at hl 0 rfl) ?_
  refine g3_5 CX hM hk_k wf_X3_31 dX3_isBladeHot_5 ?_
  refine lv_aload_n hx hb dX3_isBladeHot_8 rfl (lv_at hl 0 rfl) ?_
  refine g3_6 CX hM hk_k wf_X3_34 dX3_isBladeHot_9 ?_
  refine lv_iadd hx hb dX3_isBladeHot_12 ?_
  refine lv_icmp_lt (tgt := 20) hx hb dX3_isBladeHot_13 (by decide) (fun c1 => ?_) (fun c1 => ?_)
  · replace h := it_h c1 h
    refine lv_iconst (v := 0) hx hb dX3_isBladeHot_20 (by decide) ?_
    obtain rfl := Option.some.inj h
    exact x_zret (y := 0) CX hr hlk hM rfl rfl dX3_isBladeHot_21
  · replace h := if_h c1 h
    refine lv_iconst (v := 1) hx hb dX3_isBladeHot_16 (by decide) ?_
    refine lv_goto (tgt := 21) hx hb dX3_isBladeHot_17 (by decide) ?_
    obtain rfl := Option.some.inj h
    exact x_zret (y := 1) CX hr hlk hM rfl rfl dX3_isBladeHot_21
def rm_X3_tryToOpen : Jvm.Room := { frames := 0, cells := 0, slots := 0, locals := 0 }
set_option maxHeartbeats 4000000 in
set_option maxRecDepth 100000 in
theorem c_X3_tryToOpen (l : Launch) (E : xE) (B : Nat) {k : Nat} {x1 : Int32} {σ : xM} {q : Unit × xM} (hk_k : kd k = 3) (h : F_X3_tryToOpen k x1 σ = some q) : Met l yX3_tryToOpen (Cond.code yX3_tryToOpen cX3_tryToOpen 2 none :: AL) rm_X3_tryToOpen (xP E B 160 (layX E B) [.ref (B + k), .int x1] σ) (xQ E B 160 (layX E B) none q.2) 0 0 (wA B 160) := by
  refine x_met (plainFor_of_name (by decide +kernel)) (Nat.le_of_ble_eq_true rfl) rfl ?_
  intro p e s m below meth c ls CX hr hlk hM hl
  have hx := CX.1.1
  have hb := CX.1.2.1
  unfold F_X3_tryToOpen at h
  refine lv_aload_n hx hb dX3_tryToOpen_0 rfl (lv_at hl 0 rfl) ?_
  refine g3_9 CX hM hk_k wf_X3_48 dX3_tryToOpen_1 ?_
  refine lv_if_ne (tgt := 13) hx hb dX3_tryToOpen_4 (by decide) (fun c1 => ?_) (fun c1 => ?_)
  · replace h := if_h c1 h
    refine lv_aload_n hx hb dX3_tryToOpen_13 rfl (lv_at hl 0 rfl) ?_
    refine lv_dup hx hb dX3_tryToOpen_14 rfl ?_
    refine g3_12 CX hM hk_k wf_X3_57 dX3_tryToOpen_15 ?_
    refine lv_iconst (v := 1) hx hb dX3_tryToOpen_18 (by decide) ?_
    refine lv_iadd hx hb dX3_tryToOpen_19 ?_
    refine p3_12 (y := ((σ k 12) + 1)) CX hM hk_k wf_X3_57 dX3_tryToOpen_20 (fun H locs σ2 eσ2 hM => ?_)
    replace h := nm_h eσ2 h
    refine lv_aload_n hx hb dX3_tryToOpen_23 rfl (lv_at hl 0 rfl) ?_
    refine g3_12 CX hM hk_k wf_X3_57 dX3_tryToOpen_24 ?_
    refine lv_iload_n hx hb dX3_tryToOpen_27 rfl (lv_at hl 1 rfl) ?_
    refine lv_icmp_lt (tgt := 56) hx hb dX3_tryToOpen_28 (by decide) (fun c3 => ?_) (fun c3 => ?_)
    · replace h := it_h c3 h
      obtain rfl := Option.some.inj h
      exact x_vret CX hr hlk hM rfl dX3_tryToOpen_56
    · replace h := if_h c3 h
      refine lv_aload_n hx hb dX3_tryToOpen_31 rfl (lv_at hl 0 rfl) ?_
      refine lv_iconst (v := 0) hx hb dX3_tryToOpen_32 (by decide) ?_
      refine p3_8 (y := 0) CX hM hk_k wf_X3_44 dX3_tryToOpen_33 (fun H locs σ4 eσ4 hM => ?_)
      replace h := nm_h eσ4 h
      refine lv_aload_n hx hb dX3_tryToOpen_36 rfl (lv_at hl 0 rfl) ?_
      refine lv_iconst (v := 0) hx hb dX3_tryToOpen_37 (by decide) ?_
      refine p3_9 (y := 0) CX hM hk_k wf_X3_48 dX3_tryToOpen_38 (fun H locs σ5 eσ5 hM => ?_)
      replace h := nm_h eσ5 h
      refine lv_aload_n hx hb dX3_tryToOpen_41 rfl (lv_at hl 0 rfl) ?_
      refine lv_iconst (v := 0) hx hb dX3_tryToOpen_42 (by decide) ?_
      refine p3_12 (y := 0) CX hM hk_k wf_X3_57 dX3_tryToOpen_43 (fun H locs σ6 eσ6 hM => ?_)
      replace h := nm_h eσ6 h
      refine lv_aload_n hx hb dX3_tryToOpen_46 rfl (lv_at hl 0 rfl) ?_
      refine lv_dup hx hb dX3_tryToOpen_47 rfl ?_
      refine g3_11 CX hM hk_k wf_X3_54 dX3_tryToOpen_48 ?_
      refine lv_iconst (v := 2) hx hb dX3_tryToOpen_51 (by decide) ?_
      refine lv_idiv hx hb dX3_tryToOpen_52 (by decide) ?_
      refine p3_11 (y := ((σ6 k 11) / 2)) CX hM hk_k wf_X3_54 dX3_tryToOpen_53 (fun H locs σ7 eσ7 hM => ?_)
      replace h := nm_h eσ7 h
      obtain rfl := Option.some.inj h
      exact x_vret CX hr hlk hM rfl dX3_tryToOpen_56
  · replace h := it_h c1 h
    refine lv_aload_n hx hb dX3_tryToOpen_7 rfl (lv_at hl 0 rfl) ?_
    refine lv_iconst (v := 0) hx hb dX3_tryToOpen_8 (by decide) ?_
    refine p3_8 (y := 0) CX hM hk_k wf_X3_44 dX3_tryToOpen_9 (fun H locs σ8 eσ8 hM => ?_)
    replace h := nm_h eσ8 h
    obtain rfl := Option.some.inj h
    exact x_vret CX hr hlk hM rfl dX3_tryToOpen_12
def rm_X1_settle : Jvm.Room := { frames := 3, cells := 0, slots := 0, locals := 63 }
set_option maxHeartbeats 4000000 in
set_option maxRecDepth 100000 in
theorem c_X1_settle (l : Launch) (E : xE) (B : Nat) {k : Nat} {r1 : Nat} {σ : xM} {q : Int32 × xM} (hk_k : kd k = 1) (hk_r1 : kd r1 = 3) (h : F_X1_settle k r1 σ = some q) : Met l yX1_settle (Cond.code yX1_settle cX1_settle 4 (some .boolean) :: AL) rm_X1_settle (xP E B 160 (layX E B) [.ref (B + k), .ref (B + r1)] σ) (xQ E B 160 (layX E B) (some (.int (bz q.1))) q.2) 0 0 (wA B 160) := by
  refine x_met (plainFor_of_name (by decide +kernel)) (Nat.le_of_ble_eq_true rfl) rfl ?_
  intro p e s m below meth c ls CX hr hlk hM hl
  have hx := CX.1.1
  have hb := CX.1.2.1
  unfold F_X1_settle at h
  have J118 : ∀ (v2 : Int32) (y0 : Int32) (σ : xM), ∀ (H : Heap) (locs : List Loc) (ls : Array Slot), xS E B 160 (layX E B) s σ H locs → lv_has ls 4 [(1, .ref (B + r1)), (2, .int v2)] → F_X1_settle_J118 r1 v2 y0 σ = some q → W p l e rm_X1_settle s m ([.ref (B + k), .ref (B + r1)] : List Value).toArray below meth c H locs 0 0 (MQ below (xQ E B 160 (layX E B) (some (.int (bz q.1))) q.2) ([.ref (B + k), .ref (B + r1)] : List Value).toArray s 0 0 (wA B 160)) (F0 m 118 ls [.int y0, .ref (B + r1)]) := by
    clear hM hl h
    intro v2 y0 σ  H locs ls hM hl h
    unfold F_X1_settle_J118 at h
    refine p3_16 (y := y0) CX hM hk_r1 wf_X1_80 dX1_settle_118 (fun H locs σ9 eσ9 hM => ?_)
    replace h := nm_h eσ9 h
    refine lv_aload_n hx hb dX1_settle_121 rfl (lv_at hl 0 rfl) ?_
    refine g3_8 CX hM hk_r1 wf_X1_129 dX1_settle_122 ?_
    refine lv_iload_n hx hb dX1_settle_125 rfl (lv_at hl 1 rfl) ?_
    refine lv_icmp_eq (tgt := 133) hx hb dX1_settle_126 (by decide) (fun c10 => ?_) (fun c10 => ?_)
    · replace h := it_h c10 h
      refine lv_iconst (v := 0) hx hb dX1_settle_133 (by decide) ?_
      obtain rfl := Option.some.inj h
      exact x_zret (y := 0) CX hr hlk hM rfl rfl dX1_settle_134
    · replace h := if_h c10 h
      refine lv_iconst (v := 1) hx hb dX1_settle_129 (by decide) ?_
      refine lv_goto (tgt := 134) hx hb dX1_settle_130 (by decide) ?_
      obtain rfl := Option.some.inj h
      exact x_zret (y := 1) CX hr hlk hM rfl rfl dX1_settle_134
  have J117 : ∀ (v2 : Int32) (σ : xM), ∀ (H : Heap) (locs : List Loc) (ls : Array Slot), xS E B 160 (layX E B) s σ H locs → lv_has ls 4 [(1, .ref (B + r1)), (2, .int v2)] → F_X1_settle_J117 r1 v2 σ = some q → W p l e rm_X1_settle s m ([.ref (B + k), .ref (B + r1)] : List Value).toArray below meth c H locs 0 0 (MQ below (xQ E B 160 (layX E B) (some (.int (bz q.1))) q.2) ([.ref (B + k), .ref (B + r1)] : List Value).toArray s 0 0 (wA B 160)) (F0 m 117 ls [.ref (B + r1)]) := by
    clear hM hl h
    intro v2 σ  H locs ls hM hl h
    unfold F_X1_settle_J117 at h
    refine lv_iconst (v := 0) hx hb dX1_settle_117 (by decide) ?_
    exact J118 _ _ _  _ _ _ hM (lv_sub hl [0, 1] rfl) h
  have J93 : ∀ (v2 : Int32) (σ : xM), ∀ (H : Heap) (locs : List Loc) (ls : Array Slot), xS E B 160 (layX E B) s σ H locs → lv_has ls 4 [(1, .ref (B + r1)), (2, .int v2)] → F_X1_settle_J93 r1 v2 σ = some q → W p l e rm_X1_settle s m ([.ref (B + k), .ref (B + r1)] : List Value).toArray below meth c H locs 0 0 (MQ below (xQ E B 160 (layX E B) (some (.int (bz q.1))) q.2) ([.ref (B + k), .ref (B + r1)] : List Value).toArray s 0 0 (wA B 160)) (F0 m 93 ls []) := by
    clear hM hl h
    intro v2 σ  H locs ls hM hl h
    unfold F_X1_settle_J93 at h
    refine lv_aload_n hx hb dX1_settle_93 rfl (lv_at hl 0 rfl) ?_
    refine lv_aload_n hx hb dX1_settle_94 rfl (lv_at hl 0 rfl) ?_
    refine g3_8 CX hM hk_r1 wf_X1_129 dX1_settle_95 ?_
    refine lv_if_eq (tgt := 117) hx hb dX1_settle_98 (by decide) (fun c8 => ?_) (fun c8 => ?_)
    · replace h := it_h c8 h
      exact J117 _ _  _ _ _ hM (lv_sub hl [0, 1] rfl) h
    · replace h := if_h c8 h
      refine lv_aload_n hx hb dX1_settle_101 rfl (lv_at hl 0 rfl) ?_
      obtain ⟨q11, eq11, h⟩ := bd_h h
      refine x_callV (As := []) CX hM (kdl hk_r1 rfl) (ly3 hk_r1 _) rfl lk_X1_149 (c_X3_isBladeHot l E B hk_r1 eq11) ⟨rfl, rfl, by decide, by decide⟩ rfl hl.1 rfl (Nat.le_of_ble_eq_true rfl) dX1_settle_102 (fun H locs hM => ?_)
      refine W.eq (g2 := F0 m 105 ls [.int (bz q11.1), .ref (B + r1)]) rfl ?_
      refine lv_if_eq (tgt := 117) hx hb dX1_settle_105 (by decide) (fun c12 => ?_) (fun c12 => ?_)
      · replace h := it_h c12 h
        exact J117 _ _  _ _ _ hM (lv_sub hl [0, 1] rfl) h
      · replace h := if_h c12 h
        refine lv_aload_n hx hb dX1_settle_108 rfl (lv_at hl 0 rfl) ?_
        refine g3_16 CX hM hk_r1 wf_X1_80 dX1_settle_109 ?_
        refine lv_iconst (v := 1) hx hb dX1_settle_112 (by decide) ?_
        refine lv_iadd hx hb dX1_settle_113 ?_
        refine lv_goto (tgt := 118) hx hb dX1_settle_114 (by decide) ?_
        exact J118 _ _ _  _ _ _ hM (lv_sub hl [0, 1] rfl) h
  have J70 : ∀ (v2 : Int32) (σ : xM), ∀ (H : Heap) (locs : List Loc) (ls : Array Slot), xS E B 160 (layX E B) s σ H locs → lv_has ls 4 [(0, .ref (B + k)), (1, .ref (B + r1)), (2, .int v2)] → F_X1_settle_J70 k r1 v2 σ = some q → W p l e rm_X1_settle s m ([.ref (B + k), .ref (B + r1)] : List Value).toArray below meth c H locs 0 0 (MQ below (xQ E B 160 (layX E B) (some (.int (bz q.1))) q.2) ([.ref (B + k), .ref (B + r1)] : List Value).toArray s 0 0 (wA B 160)) (F0 m 70 ls []) := by
    clear hM hl h
    intro v2 σ  H locs ls hM hl h
    unfold F_X1_settle_J70 at h
    refine lv_aload_n hx hb dX1_settle_70 rfl (lv_at hl 1 rfl) ?_
    refine g3_8 CX hM hk_r1 wf_X1_129 dX1_settle_71 ?_
    refine lv_if_eq (tgt := 93) hx hb dX1_settle_74 (by decide) (fun c7 => ?_) (fun c7 => ?_)
    · replace h := it_h c7 h
      exact J93 _ _  _ _ _ hM (lv_sub hl [1, 2] rfl) h
    · replace h := if_h c7 h
      refine lv_aload_n hx hb dX1_settle_77 rfl (lv_at hl 1 rfl) ?_
      obtain ⟨q13, eq13, h⟩ := bd_h h
      refine x_callV (As := []) CX hM (kdl hk_r1 rfl) (ly3 hk_r1 _) rfl lk_X1_149 (c_X3_isBladeHot l E B hk_r1 eq13) ⟨rfl, rfl, by decide, by decide⟩ rfl hl.1 rfl (Nat.le_of_ble_eq_true rfl) dX1_settle_78 (fun H locs hM => ?_)
      refine W.eq (g2 := F0 m 81 ls [.int (bz q13.1)]) rfl ?_
      refine lv_if_eq (tgt := 93) hx hb dX1_settle_81 (by decide) (fun c14 => ?_) (fun c14 => ?_)
      · replace h := it_h c14 h
        exact J93 _ _  _ _ _ hM (lv_sub hl [1, 2] rfl) h
      · replace h := if_h c14 h
        refine lv_aload_n hx hb dX1_settle_84 rfl (lv_at hl 1 rfl) ?_
        refine lv_aload_n hx hb dX1_settle_85 rfl (lv_at hl 0 rfl) ?_
        refine lv_iconst (v := 2) hx hb dX1_settle_86 (by decide) ?_
        obtain ⟨q15, eq15, h⟩ := bd_h h
        refine x_callV (As := [.int 2]) CX hM (kdl hk_k rfl) (ly1 hk_k _) rfl lk_X1_83 (c_X1_number l E B hk_k eq15) ⟨rfl, rfl, by decide, by decide⟩ rfl hl.1 rfl (Nat.le_of_ble_eq_true rfl) dX1_settle_87 (fun H locs hM => ?_)
        refine W.eq (g2 := F0 m 90 ls [.int q15.1, .ref (B + r1)]) rfl ?_
        obtain ⟨q16, eq16, h⟩ := bd_h h
        refine x_callV (As := [.int q15.1]) CX hM (kdl hk_r1 rfl) (ly3 hk_r1 _) rfl lk_X1_152 (c_X3_tryToOpen l E B hk_r1 eq16) ⟨rfl, rfl, by decide, by decide⟩ rfl hl.1 rfl (Nat.le_of_ble_eq_true rfl) dX1_settle_90 (fun H locs hM => ?_)
        refine W.eq (g2 := F0 m 93 ls []) rfl ?_
        exact J93 _ _  _ _ _ hM (lv_sub hl [1, 2] rfl) h
  have J24 : ∀ (v2 : Int32) (v3 : Int32) (σ : xM), ∀ (H : Heap) (locs : List Loc) (ls : Array Slot), xS E B 160 (layX E B) s σ H locs → lv_has ls 4 [(0, .ref (B + k)), (1, .ref (B + r1)), (2, .int v2), (3, .int v3)] → F_X1_settle_J24 k r1 v2 v3 σ = some q → W p l e rm_X1_settle s m ([.ref (B + k), .ref (B + r1)] : List Value).toArray below meth c H locs 0 0 (MQ below (xQ E B 160 (layX E B) (some (.int (bz q.1))) q.2) ([.ref (B + k), .ref (B + r1)] : List Value).toArray s 0 0 (wA B 160)) (F0 m 24 ls []) := by
    clear hM hl h
    intro v2 v3 σ  H locs ls hM hl h
    unfold F_X1_settle_J24 at h
    refine lv_aload_n hx hb dX1_settle_24 rfl (lv_at hl 1 rfl) ?_
    refine lv_dup hx hb dX1_settle_25 rfl ?_
    refine g3_7 CX hM hk_r1 wf_X1_139 dX1_settle_26 ?_
    refine lv_iload_n hx hb dX1_settle_29 rfl (lv_at hl 3 rfl) ?_
    refine lv_aload_n hx hb dX1_settle_30 rfl (lv_at hl 1 rfl) ?_
    refine g3_7 CX hM hk_r1 wf_X1_139 dX1_settle_31 ?_
    refine lv_isub hx hb dX1_settle_34 ?_
    refine lv_aload_n hx hb dX1_settle_35 rfl (lv_at hl 0 rfl) ?_
    refine lv_iconst (v := 0) hx hb dX1_settle_36 (by decide) ?_
    obtain ⟨q4, eq4, h⟩ := bd_h h
    refine x_callV (As := [.int 0]) CX hM (kdl hk_k rfl) (ly1 hk_k _) rfl lk_X1_83 (c_X1_number l E B hk_k eq4) ⟨rfl, rfl, by decide, by decide⟩ rfl hl.1 rfl (Nat.le_of_ble_eq_true rfl) dX1_settle_37 (fun H locs hM => ?_)
    refine W.eq (g2 := F0 m 40 ls [.int q4.1, .int (v3 - (σ r1 7)), .int (σ r1 7), .ref (B + r1)]) rfl ?_
    refine lv_imul hx hb dX1_settle_40 ?_
    refine lv_bipush (v := 100) hx hb dX1_settle_41 (by decide) ?_
    refine lv_idiv hx hb dX1_settle_43 (by decide) ?_
    refine lv_iadd hx hb dX1_settle_44 ?_
    refine p3_7 (y := ((σ r1 7) + (((v3 - (σ r1 7)) * q4.1) / 100))) CX hM hk_r1 wf_X1_139 dX1_settle_45 (fun H locs σ5 eσ5 hM => ?_)
    replace h := nm_h eσ5 h
    refine lv_aload_n hx hb dX1_settle_48 rfl (lv_at hl 1 rfl) ?_
    refine g3_8 CX hM hk_r1 wf_X1_129 dX1_settle_49 ?_
    refine lv_if_ne (tgt := 70) hx hb dX1_settle_52 (by decide) (fun c6 => ?_) (fun c6 => ?_)
    · replace h := if_h c6 h
      exact J70 _ _  _ _ _ hM (lv_sub hl [0, 1, 2] rfl) h
    · replace h := it_h c6 h
      refine lv_aload_n hx hb dX1_settle_55 rfl (lv_at hl 1 rfl) ?_
      obtain ⟨q17, eq17, h⟩ := bd_h h
      refine x_callV (As := []) CX hM (kdl hk_r1 rfl) (ly3 hk_r1 _) rfl lk_X1_142 (c_X3_isBladeCold l E B hk_r1 eq17) ⟨rfl, rfl, by decide, by decide⟩ rfl hl.1 rfl (Nat.le_of_ble_eq_true rfl) dX1_settle_56 (fun H locs hM => ?_)
      refine W.eq (g2 := F0 m 59 ls [.int (bz q17.1)]) rfl ?_
      refine lv_if_eq (tgt := 70) hx hb dX1_settle_59 (by decide) (fun c18 => ?_) (fun c18 => ?_)
      · replace h := it_h c18 h
        exact J70 _ _  _ _ _ hM (lv_sub hl [0, 1, 2] rfl) h
      · replace h := if_h c18 h
        refine lv_aload_n hx hb dX1_settle_62 rfl (lv_at hl 0 rfl) ?_
        refine lv_aload_n hx hb dX1_settle_63 rfl (lv_at hl 1 rfl) ?_
        obtain ⟨q19, eq19, h⟩ := bd_h h
        refine x_callV (As := [.ref (B + r1)]) CX hM (kdl hk_k rfl) (ly1 hk_k _) rfl lk_X1_146 (c_X1_close l E B hk_k hk_r1 eq19) ⟨rfl, rfl, by decide, by decide⟩ rfl hl.1 rfl (Nat.le_of_ble_eq_true rfl) dX1_settle_64 (fun H locs hM => ?_)
        refine W.eq (g2 := F0 m 67 ls []) rfl ?_
        refine lv_goto (tgt := 93) hx hb dX1_settle_67 (by decide) ?_
        exact J93 _ _  _ _ _ hM (lv_sub hl [1, 2] rfl) h
  refine lv_aload_n hx hb dX1_settle_0 rfl (lv_at hl 1 rfl) ?_
  refine g3_8 CX hM hk_r1 wf_X1_129 dX1_settle_1 ?_
  refine lv_istore_n (lv' := [(2, .int (bz (σ r1 8))), (0, .ref (B + k)), (1, .ref (B + r1))]) hx hb dX1_settle_4 rfl hl (by decide) rfl (fun ls hl => ?_)
  refine lv_aload_n hx hb dX1_settle_5 rfl (lv_at hl 2 rfl) ?_
  obtain ⟨q1, eq1, h⟩ := bd_h h
  refine x_callV (As := []) CX hM (kdl hk_r1 rfl) (ly3 hk_r1 _) rfl lk_X1_133 (c_X3_temperature l E B hk_r1 eq1) ⟨rfl, rfl, by decide, by decide⟩ rfl hl.1 rfl (Nat.le_of_ble_eq_true rfl) dX1_settle_6 (fun H locs hM => ?_)
  refine W.eq (g2 := F0 m 9 ls [.int q1.1]) rfl ?_
  refine lv_istore_n (lv' := [(3, .int q1.1), (2, .int (bz (σ r1 8))), (0, .ref (B + k)), (1, .ref (B + r1))]) hx hb dX1_settle_9 rfl hl (by decide) rfl (fun ls hl => ?_)
  refine lv_iload_n hx hb dX1_settle_10 rfl (lv_at hl 0 rfl) ?_
  refine lv_aload_n hx hb dX1_settle_11 rfl (lv_at hl 2 rfl) ?_
  refine lv_iconst (v := 5) hx hb dX1_settle_12 (by decide) ?_
  obtain ⟨q2, eq2, h⟩ := bd_h h
  refine x_callV (As := [.int 5]) CX hM (kdl hk_k rfl) (ly1 hk_k _) rfl lk_X1_83 (c_X1_number l E B hk_k eq2) ⟨rfl, rfl, by decide, by decide⟩ rfl hl.1 rfl (Nat.le_of_ble_eq_true rfl) dX1_settle_13 (fun H locs hM => ?_)
  refine W.eq (g2 := F0 m 16 ls [.int q2.1, .int q1.1]) rfl ?_
  refine lv_icmp_le (tgt := 24) hx hb dX1_settle_16 (by decide) (fun c3 => ?_) (fun c3 => ?_)
  · replace h := it_h c3 h
    exact J24 _ _ _  _ _ _ hM (lv_sub hl [2, 3, 1, 0] rfl) h
  · replace h := if_h c3 h
    refine lv_aload_n hx hb dX1_settle_19 rfl (lv_at hl 3 rfl) ?_
    refine lv_iconst (v := 1) hx hb dX1_settle_20 (by decide) ?_
    refine p3_10 (y := 1) CX hM hk_r1 wf_X1_136 dX1_settle_21 (fun H locs σ20 eσ20 hM => ?_)
    replace h := nm_h eσ20 h
    exact J24 _ _ _  _ _ _ hM (lv_sub hl [2, 3, 1, 0] rfl) h
def rm_X1_passMinute : Jvm.Room := { frames := 5, cells := 0, slots := 0, locals := 108 }
set_option maxHeartbeats 4000000 in
set_option maxRecDepth 100000 in
theorem c_X1_passMinute (l : Launch) (E : xE) (B : Nat) {k : Nat} {σ : xM} {q : Int32 × xM} (hk_k : kd k = 1) (h : F_X1_passMinute k σ = some q) : Met l yX1_passMinute (Cond.code yX1_passMinute cX1_passMinute 4 (some .int) :: AL) rm_X1_passMinute (xP E B 160 (layX E B) [.ref (B + k)] σ) (xQ E B 160 (layX E B) (some (.int q.1)) q.2) 0 0 (wA B 160) := by
  refine x_met (plainFor_of_name (by decide +kernel)) (Nat.le_of_ble_eq_true rfl) rfl ?_
  intro p e s m below meth c ls CX hr hlk hM hl
  have hx := CX.1.1
  have hb := CX.1.2.1
  unfold F_X1_passMinute at h
  have L12 : ∀ (N : Nat) (v1 : Int32) (v2 : Int32) (σ : xM), ∀ (H : Heap) (locs : List Loc) (ls : Array Slot), xS E B 160 (layX E B) s σ H locs → lv_has ls 4 [(0, .ref (B + k)), (1, .int v1), (2, .int v2)] → F_X1_passMinute_L12 k N v1 v2 σ = some q → W p l e rm_X1_passMinute s m ([.ref (B + k)] : List Value).toArray below meth c H locs 0 0 (MQ below (xQ E B 160 (layX E B) (some (.int q.1)) q.2) ([.ref (B + k)] : List Value).toArray s 0 0 (wA B 160)) (F0 m 12 ls []) := by
    clear hM hl h
    intro N
    induction N with
    | zero =>
      intro v1 v2 σ  H locs ls hM hl h
      cases h
    | succ N ih =>
      intro v1 v2 σ  H locs ls hM hl h
      rw [F_X1_passMinute_L12] at h
      refine lv_iload_n hx hb dX1_passMinute_12 rfl (lv_at hl 2 rfl) ?_
      refine lv_aload_n hx hb dX1_passMinute_13 rfl (lv_at hl 0 rfl) ?_
      refine g1_4 CX hM hk_k wf_X1_45 dX1_passMinute_14 ?_
      refine lv_icmp_ge (tgt := 47) hx hb dX1_passMinute_17 (by decide) (fun c3 => ?_) (fun c3 => ?_)
      · replace h := it_h c3 h
        refine lv_aload_n hx hb dX1_passMinute_47 rfl (lv_at hl 0 rfl) ?_
        refine lv_dup hx hb dX1_passMinute_48 rfl ?_
        refine g1_5 CX hM hk_k wf_X1_49 dX1_passMinute_49 ?_
        refine lv_iconst (v := 1) hx hb dX1_passMinute_52 (by decide) ?_
        refine lv_iadd hx hb dX1_passMinute_53 ?_
        refine p1_5 (y := ((σ k 5) + 1)) CX hM hk_k wf_X1_49 dX1_passMinute_54 (fun H locs σ4 eσ4 hM => ?_)
        replace h := nm_h eσ4 h
        refine lv_iload_n hx hb dX1_passMinute_57 rfl (lv_at hl 1 rfl) ?_
        obtain rfl := Option.some.inj h
        exact x_iret CX hr hlk hM rfl dX1_passMinute_58
      · replace h := if_h c3 h
        refine lv_aload_n hx hb dX1_passMinute_20 rfl (lv_at hl 0 rfl) ?_
        refine lv_iload_n hx hb dX1_passMinute_21 rfl (lv_at hl 2 rfl) ?_
        obtain ⟨q5, eq5, h⟩ := bd_h h
        refine x_callV (As := [.int v2]) CX hM (kdl hk_k rfl) (ly1 hk_k _) rfl lk_X1_52 (c_X1_roomAt l E B hk_k eq5) ⟨rfl, rfl, by decide, by decide⟩ rfl hl.1 rfl (Nat.le_of_ble_eq_true rfl) dX1_passMinute_22 (fun H locs hM => ?_)
        rcases hq5 : q5.1 with _ | r6
        · rw [hq5] at h
          replace h := oc_n h
          refine W.eq (g2 := F0 m 25 ls [.null]) rfl ?_
          refine lv_astore_nN (lv' := [(3, .null), (0, .ref (B + k)), (1, .int v1), (2, .int v2)]) hx hb dX1_passMinute_25 rfl hl (by decide) rfl (fun ls hl => ?_)
          refine lv_aload_nN hx hb dX1_passMinute_26 rfl (lv_at hl 0 rfl) ?_
          refine lv_ifnullN (tgt := 41) hx hb dX1_passMinute_27 (by decide) ?_
          refine lv_iinc (v := (v2 + 1)) (lv' := [(2, .int (v2 + 1)), (3, .null), (0, .ref (B + k)), (1, .int v1)]) hx hb dX1_passMinute_41 hl (k := 3) rfl rfl (by decide) rfl (fun ls hl => ?_)
          refine lv_goto (tgt := 12) hx hb dX1_passMinute_44 (by decide) ?_
          exact ih _ _ _  _ _ _ hM (lv_sub hl [2, 3, 0] rfl) h
        · rw [hq5] at h
          replace h := oc_s h
          obtain ⟨hk_r6, h⟩ := ck_h h
          refine W.eq (g2 := F0 m 25 ls [.ref (B + r6)]) rfl ?_
          refine lv_astore_n (lv' := [(3, .ref (B + r6)), (0, .ref (B + k)), (1, .int v1), (2, .int v2)]) hx hb dX1_passMinute_25 rfl hl (by decide) rfl (fun ls hl => ?_)
          refine lv_aload_n hx hb dX1_passMinute_26 rfl (lv_at hl 0 rfl) ?_
          refine lv_ifnull hx hb dX1_passMinute_27 ?_
          refine lv_aload_n hx hb dX1_passMinute_30 rfl (lv_at hl 1 rfl) ?_
          refine lv_aload_n hx hb dX1_passMinute_31 rfl (lv_at hl 0 rfl) ?_
          obtain ⟨q7, eq7, h⟩ := bd_h h
          refine x_callV (As := [.ref (B + r6)]) CX hM (kdl hk_k rfl) (ly1 hk_k _) rfl lk_X1_113 (c_X1_settle l E B hk_k hk_r6 eq7) ⟨rfl, rfl, by decide, by decide⟩ rfl hl.1 rfl (Nat.le_of_ble_eq_true rfl) dX1_passMinute_32 (fun H locs hM => ?_)
          refine W.eq (g2 := F0 m 35 ls [.int (bz q7.1)]) rfl ?_
          refine lv_if_eq (tgt := 41) hx hb dX1_passMinute_35 (by decide) (fun c8 => ?_) (fun c8 => ?_)
          · replace h := it_h c8 h
            refine lv_iinc (v := (v2 + 1)) (lv' := [(2, .int (v2 + 1)), (3, .ref (B + r6)), (0, .ref (B + k)), (1, .int v1)]) hx hb dX1_passMinute_41 hl (k := 3) rfl rfl (by decide) rfl (fun ls hl => ?_)
            refine lv_goto (tgt := 12) hx hb dX1_passMinute_44 (by decide) ?_
            exact ih _ _ _  _ _ _ hM (lv_sub hl [2, 3, 0] rfl) h
          · replace h := if_h c8 h
            refine lv_iinc (v := (v1 + 1)) (lv' := [(1, .int (v1 + 1)), (3, .ref (B + r6)), (0, .ref (B + k)), (2, .int v2)]) hx hb dX1_passMinute_38 hl (k := 2) rfl rfl (by decide) rfl (fun ls hl => ?_)
            refine lv_iinc (v := (v2 + 1)) (lv' := [(2, .int (v2 + 1)), (1, .int (v1 + 1)), (3, .ref (B + r6)), (0, .ref (B + k))]) hx hb dX1_passMinute_41 hl (k := 3) rfl rfl (by decide) rfl (fun ls hl => ?_)
            refine lv_goto (tgt := 12) hx hb dX1_passMinute_44 (by decide) ?_
            exact ih _ _ _  _ _ _ hM (lv_sub hl [3, 1, 0] rfl) h
  refine lv_aload_n hx hb dX1_passMinute_0 rfl (lv_at hl 0 rfl) ?_
  obtain ⟨q1, eq1, h⟩ := bd_h h
  refine x_callV (As := []) CX hM (kdl hk_k rfl) (ly1 hk_k _) rfl lk_X1_107 (c_X1_heatRooms l E B hk_k eq1) ⟨rfl, rfl, by decide, by decide⟩ rfl hl.1 rfl (Nat.le_of_ble_eq_true rfl) dX1_passMinute_1 (fun H locs hM => ?_)
  refine W.eq (g2 := F0 m 4 ls []) rfl ?_
  refine lv_aload_n hx hb dX1_passMinute_4 rfl (lv_at hl 0 rfl) ?_
  obtain ⟨q2, eq2, h⟩ := bd_h h
  refine x_callV (As := []) CX hM (kdl hk_k rfl) (ly1 hk_k _) rfl lk_X1_110 (c_X1_exchangeHeat l E B hk_k eq2) ⟨rfl, rfl, by decide, by decide⟩ rfl hl.1 rfl (Nat.le_of_ble_eq_true rfl) dX1_passMinute_5 (fun H locs hM => ?_)
  refine W.eq (g2 := F0 m 8 ls []) rfl ?_
  refine lv_iconst (v := 0) hx hb dX1_passMinute_8 (by decide) ?_
  refine lv_istore_n (lv' := [(1, .int 0), (0, .ref (B + k))]) hx hb dX1_passMinute_9 rfl hl (by decide) rfl (fun ls hl => ?_)
  refine lv_iconst (v := 0) hx hb dX1_passMinute_10 (by decide) ?_
  refine lv_istore_n (lv' := [(2, .int 0), (1, .int 0), (0, .ref (B + k))]) hx hb dX1_passMinute_11 rfl hl (by decide) rfl (fun ls hl => ?_)
  exact L12 _ _ _ _  _ _ _ hM (lv_sub hl [2, 1, 0] rfl) h
def rm_X1_passMinutes : Jvm.Room := { frames := 6, cells := 0, slots := 0, locals := 131 }
set_option maxHeartbeats 4000000 in
set_option maxRecDepth 100000 in
theorem c_X1_passMinutes (l : Launch) (E : xE) (B : Nat) {k : Nat} {x1 : Int32} {σ : xM} {q : Int32 × xM} (hk_k : kd k = 1) (h : F_X1_passMinutes k x1 σ = some q) : Met l yX1_passMinutes (Cond.code yX1_passMinutes cX1_passMinutes 4 (some .int) :: AL) rm_X1_passMinutes (xP E B 160 (layX E B) [.ref (B + k), .int x1] σ) (xQ E B 160 (layX E B) (some (.int q.1)) q.2) 0 0 (wA B 160) := by
  refine x_met (plainFor_of_name (by decide +kernel)) (Nat.le_of_ble_eq_true rfl) rfl ?_
  intro p e s m below meth c ls CX hr hlk hM hl
  have hx := CX.1.1
  have hb := CX.1.2.1
  unfold F_X1_passMinutes at h
  have L4 : ∀ (N : Nat) (v1 : Int32) (v2 : Int32) (v3 : Int32) (σ : xM), ∀ (H : Heap) (locs : List Loc) (ls : Array Slot), xS E B 160 (layX E B) s σ H locs → lv_has ls 4 [(0, .ref (B + k)), (1, .int v1), (2, .int v2), (3, .int v3)] → F_X1_passMinutes_L4 k N v1 v2 v3 σ = some q → W p l e rm_X1_passMinutes s m ([.ref (B + k), .int x1] : List Value).toArray below meth c H locs 0 0 (MQ below (xQ E B 160 (layX E B) (some (.int q.1)) q.2) ([.ref (B + k), .int x1] : List Value).toArray s 0 0 (wA B 160)) (F0 m 4 ls []) := by
    clear hM hl h
    intro N
    induction N with
    | zero =>
      intro v1 v2 v3 σ  H locs ls hM hl h
      cases h
    | succ N ih =>
      intro v1 v2 v3 σ  H locs ls hM hl h
      rw [F_X1_passMinutes_L4] at h
      refine lv_iload_n hx hb dX1_passMinutes_4 rfl (lv_at hl 3 rfl) ?_
      refine lv_iload_n hx hb dX1_passMinutes_5 rfl (lv_at hl 1 rfl) ?_
      refine lv_icmp_ge (tgt := 22) hx hb dX1_passMinutes_6 (by decide) (fun c1 => ?_) (fun c1 => ?_)
      · replace h := it_h c1 h
        refine lv_iload_n hx hb dX1_passMinutes_22 rfl (lv_at hl 2 rfl) ?_
        obtain rfl := Option.some.inj h
        exact x_iret CX hr hlk hM rfl dX1_passMinutes_23
      · replace h := if_h c1 h
        refine lv_iload_n hx hb dX1_passMinutes_9 rfl (lv_at hl 2 rfl) ?_
        refine lv_aload_n hx hb dX1_passMinutes_10 rfl (lv_at hl 0 rfl) ?_
        obtain ⟨q2, eq2, h⟩ := bd_h h
        refine x_callV (As := []) CX hM (kdl hk_k rfl) (ly1 hk_k _) rfl lk_X1_103 (c_X1_passMinute l E B hk_k eq2) ⟨rfl, rfl, by decide, by decide⟩ rfl hl.1 rfl (Nat.le_of_ble_eq_true rfl) dX1_passMinutes_11 (fun H locs hM => ?_)
        refine W.eq (g2 := F0 m 14 ls [.int q2.1, .int v2]) rfl ?_
        refine lv_iadd hx hb dX1_passMinutes_14 ?_
        refine lv_topi (fun x2_3 ex2_3 => ?_)
        replace h := nm_h ex2_3 h
        refine lv_istore_n (lv' := [(2, .int x2_3), (0, .ref (B + k)), (1, .int v1), (3, .int v3)]) hx hb dX1_passMinutes_15 rfl hl (by decide) rfl (fun ls hl => ?_)
        refine lv_iinc (v := (v3 + 1)) (lv' := [(3, .int (v3 + 1)), (2, .int x2_3), (0, .ref (B + k)), (1, .int v1)]) hx hb dX1_passMinutes_16 hl (k := 3) rfl rfl (by decide) rfl (fun ls hl => ?_)
        refine lv_goto (tgt := 4) hx hb dX1_passMinutes_19 (by decide) ?_
        exact ih _ _ _ _  _ _ _ hM (lv_sub hl [2, 3, 1, 0] rfl) h
  refine lv_iconst (v := 0) hx hb dX1_passMinutes_0 (by decide) ?_
  refine lv_istore_n (lv' := [(2, .int 0), (0, .ref (B + k)), (1, .int x1)]) hx hb dX1_passMinutes_1 rfl hl (by decide) rfl (fun ls hl => ?_)
  refine lv_iconst (v := 0) hx hb dX1_passMinutes_2 (by decide) ?_
  refine lv_istore_n (lv' := [(3, .int 0), (2, .int 0), (0, .ref (B + k)), (1, .int x1)]) hx hb dX1_passMinutes_3 rfl hl (by decide) rfl (fun ls hl => ?_)
  exact L4 _ _ _ _ _  _ _ _ hM (lv_sub hl [2, 3, 1, 0] rfl) h
def rm_X2_stateAt : Jvm.Room := { frames := 0, cells := 0, slots := 0, locals := 0 }
set_option maxHeartbeats 4000000 in
set_option maxRecDepth 100000 in
theorem c_X2_stateAt (l : Launch) (E : xE) (B : Nat) {k : Nat} {x1 : Int32} {σ : xM} {q : Option Nat × xM} (hk_k : kd k = 2) (h : F_X2_stateAt k x1 σ = some q) : Met l yX2_stateAt (Cond.code yX2_stateAt cX2_stateAt 2 (some (.object "ThermostatColony$Colony")) :: AL) rm_X2_stateAt (xP E B 160 (layX E B) [.ref (B + k), .int x1] σ) (xQ E B 160 (layX E B) (some (va_rf (q.1.map (fun k => B + k)))) q.2) 0 0 (wA B 160) := by
  refine x_met (plainFor_of_name (by decide +kernel)) (Nat.le_of_ble_eq_true rfl) rfl ?_
  intro p e s m below meth c ls CX hr hlk hM hl
  have hx := CX.1.1
  have hb := CX.1.2.1
  unfold F_X2_stateAt at h
  refine lv_iload_n hx hb dX2_stateAt_0 rfl (lv_at hl 1 rfl) ?_
  refine lv_if_lt (tgt := 22) hx hb dX2_stateAt_1 (by decide) (fun c1 => ?_) (fun c1 => ?_)
  · replace h := it_h c1 h
    refine lv_null hx hb dX2_stateAt_22 ?_
    obtain rfl := Option.some.inj h
    exact x_aret CX hr hlk hM (Or.inl rfl) rfl dX2_stateAt_23
  · replace h := if_h c1 h
    refine lv_iload_n hx hb dX2_stateAt_4 rfl (lv_at hl 1 rfl) ?_
    refine lv_aload_n hx hb dX2_stateAt_5 rfl (lv_at hl 0 rfl) ?_
    refine g2_0 CX hM hk_k wf_X2_11 dX2_stateAt_6 ?_
    refine x_alen (v := 6) CX hM 3 (kdl (kd2_f hk_k) rfl) (ly14 (kd2_f hk_k) _) rfl rfl dX2_stateAt_9 ?_
    refine lv_icmp_ge (tgt := 22) hx hb dX2_stateAt_10 (by decide) (fun c2 => ?_) (fun c2 => ?_)
    · replace h := it_h c2 h
      refine lv_null hx hb dX2_stateAt_22 ?_
      obtain rfl := Option.some.inj h
      exact x_aret CX hr hlk hM (Or.inl rfl) rfl dX2_stateAt_23
    · replace h := if_h c2 h
      refine lv_aload_n hx hb dX2_stateAt_13 rfl (lv_at hl 0 rfl) ?_
      refine g2_0 CX hM hk_k wf_X2_11 dX2_stateAt_14 ?_
      refine lv_iload_n hx hb dX2_stateAt_17 rfl (lv_at hl 1 rfl) ?_
      obtain ⟨g3, h⟩ := ck_h h
      refine x_aald CX hM 3 (kdl (kd2_f hk_k) rfl) (ly14 (kd2_f hk_k) _) rfl g3 rfl dX2_stateAt_18 ?_
      refine lv_goto (tgt := 23) hx hb dX2_stateAt_19 (by decide) ?_
      obtain rfl := Option.some.inj h
      exact x_aret CX hr hlk hM (Or.inr ⟨_, rfl⟩) rfl dX2_stateAt_23
def rm_J9_min_7cf53 : Jvm.Room := { frames := 0, cells := 0, slots := 0, locals := 0 }
set_option maxHeartbeats 4000000 in
set_option maxRecDepth 100000 in
theorem c_J9_min_7cf53 (l : Launch) (E : xE) (B : Nat) {x0 : Int32} {x1 : Int32} {σ : xM} {q : Int32 × xM}  (h : F_J9_min_7cf53 x0 x1 σ = some q) : Met l yJ9_min_7cf53 (Cond.code yJ9_min_7cf53 cJ9_min_7cf53 2 (some .int) :: AL) rm_J9_min_7cf53 (xP E B 160 (layX E B) [.int x0, .int x1] σ) (xQ E B 160 (layX E B) (some (.int q.1)) q.2) 0 0 (wA B 160) := by
  refine x_met (by decide +kernel) (Nat.le_of_ble_eq_true rfl) rfl ?_
  intro p e s m below meth c ls CX hr hlk hM hl
  have hx := CX.1.1
  have hb := CX.1.2.1
  unfold F_J9_min_7cf53 at h
  refine lv_iload_n hx hb dJ9_min_7cf53_0 rfl (lv_at hl 0 rfl) ?_
  refine lv_iload_n hx hb dJ9_min_7cf53_1 rfl (lv_at hl 1 rfl) ?_
  refine lv_icmp_gt (tgt := 9) hx hb dJ9_min_7cf53_2 (by decide) (fun c1 => ?_) (fun c1 => ?_)
  · replace h := it_h c1 h
    refine lv_iload_n hx hb dJ9_min_7cf53_9 rfl (lv_at hl 1 rfl) ?_
    obtain rfl := Option.some.inj h
    exact x_iret CX hr hlk hM rfl dJ9_min_7cf53_10
  · replace h := if_h c1 h
    refine lv_iload_n hx hb dJ9_min_7cf53_5 rfl (lv_at hl 0 rfl) ?_
    refine lv_goto (tgt := 10) hx hb dJ9_min_7cf53_6 (by decide) ?_
    obtain rfl := Option.some.inj h
    exact x_iret CX hr hlk hM rfl dJ9_min_7cf53_10
def rm_X2_save : Jvm.Room := { frames := 3, cells := 0, slots := 0, locals := 71 }
set_option maxHeartbeats 4000000 in
set_option maxRecDepth 100000 in
theorem c_X2_save (l : Launch) (E : xE) (B : Nat) {k : Nat} {r1 : Nat} {σ : xM} {q : Unit × xM} (hk_k : kd k = 2) (hk_r1 : kd r1 = 1) (h : F_X2_save k r1 σ = some q) : Met l yX2_save (Cond.code yX2_save cX2_save 3 none :: AL) rm_X2_save (xP E B 160 (layX E B) [.ref (B + k), .ref (B + r1)] σ) (xQ E B 160 (layX E B) none q.2) 0 0 (wA B 160) := by
  refine x_met (plainFor_of_name (by decide +kernel)) (Nat.le_of_ble_eq_true rfl) rfl ?_
  intro p e s m below meth c ls CX hr hlk hM hl
  have hx := CX.1.1
  have hb := CX.1.2.1
  unfold F_X2_save at h
  refine lv_aload_n hx hb dX2_save_0 rfl (lv_at hl 0 rfl) ?_
  refine lv_aload_n hx hb dX2_save_1 rfl (lv_at hl 0 rfl) ?_
  refine g2_1 CX hM hk_k wf_X2_18 dX2_save_2 ?_
  obtain ⟨q1, eq1, h⟩ := bd_h h
  refine x_callV (As := [.int (σ k 1)]) CX hM (kdl hk_k rfl) (ly2 hk_k _) rfl lk_X2_22 (c_X2_stateAt l E B hk_k eq1) ⟨rfl, rfl, by decide, by decide⟩ rfl hl.1 rfl (Nat.le_of_ble_eq_true rfl) dX2_save_5 (fun H locs hM => ?_)
  rcases hq1 : q1.1 with _ | r2
  · rw [hq1] at h
    replace h := oc_n h
    refine W.eq (g2 := F0 m 8 ls [.null]) rfl ?_
    refine lv_astore_nN (lv' := [(2, .null), (0, .ref (B + k)), (1, .ref (B + r1))]) hx hb dX2_save_8 rfl hl (by decide) rfl (fun ls hl => ?_)
    refine lv_aload_nN hx hb dX2_save_9 rfl (lv_at hl 0 rfl) ?_
    refine lv_ifnullN (tgt := 46) hx hb dX2_save_10 (by decide) ?_
    obtain rfl := Option.some.inj h
    exact x_vret CX hr hlk hM rfl dX2_save_46
  · rw [hq1] at h
    replace h := oc_s h
    obtain ⟨hk_r2, h⟩ := ck_h h
    refine W.eq (g2 := F0 m 8 ls [.ref (B + r2)]) rfl ?_
    refine lv_astore_n (lv' := [(2, .ref (B + r2)), (0, .ref (B + k)), (1, .ref (B + r1))]) hx hb dX2_save_8 rfl hl (by decide) rfl (fun ls hl => ?_)
    refine lv_aload_n hx hb dX2_save_9 rfl (lv_at hl 0 rfl) ?_
    refine lv_ifnull hx hb dX2_save_10 ?_
    refine lv_aload_n hx hb dX2_save_13 rfl (lv_at hl 0 rfl) ?_
    refine lv_aload_n hx hb dX2_save_14 rfl (lv_at hl 2 rfl) ?_
    obtain ⟨q3, eq3, h⟩ := bd_h h
    refine x_callV (As := [.ref (B + r1)]) CX hM (kdl hk_r2 rfl) (ly1 hk_r2 _) rfl lk_X2_26 (c_X1_copyFrom l E B hk_r2 hk_r1 eq3) ⟨rfl, rfl, by decide, by decide⟩ rfl hl.1 rfl (Nat.le_of_ble_eq_true rfl) dX2_save_15 (fun H locs hM => ?_)
    refine W.eq (g2 := F0 m 18 ls []) rfl ?_
    refine lv_aload_n hx hb dX2_save_18 rfl (lv_at hl 1 rfl) ?_
    refine lv_aload_n hx hb dX2_save_19 rfl (lv_at hl 1 rfl) ?_
    refine g2_1 CX hM hk_k wf_X2_18 dX2_save_20 ?_
    refine lv_iconst (v := 1) hx hb dX2_save_23 (by decide) ?_
    refine lv_iadd hx hb dX2_save_24 ?_
    refine lv_bipush (v := 6) hx hb dX2_save_25 (by decide) ?_
    refine lv_irem hx hb dX2_save_27 (by decide) ?_
    refine p2_1 (y := (((q3.2 k 1) + 1) - ((q3.2 k 1) + 1) / 6 * 6)) CX hM hk_k wf_X2_18 dX2_save_28 (fun H locs σ4 eσ4 hM => ?_)
    replace h := nm_h eσ4 h
    refine lv_aload_n hx hb dX2_save_31 rfl (lv_at hl 1 rfl) ?_
    refine lv_aload_n hx hb dX2_save_32 rfl (lv_at hl 1 rfl) ?_
    refine g2_2 CX hM hk_k wf_X2_30 dX2_save_33 ?_
    refine lv_iconst (v := 1) hx hb dX2_save_36 (by decide) ?_
    refine lv_iadd hx hb dX2_save_37 ?_
    refine lv_bipush (v := 6) hx hb dX2_save_38 (by decide) ?_
    obtain ⟨q5, eq5, h⟩ := bd_h h
    refine x_callS (As := [.int ((σ4 k 2) + 1), .int 6]) CX hM lk_X2_33 (c_J9_min_7cf53 l E B  eq5) ⟨rfl, rfl, by decide, by decide⟩ rfl hl.1 rfl (Nat.le_of_ble_eq_true rfl) dX2_save_40 (fun H locs hM => ?_)
    refine W.eq (g2 := F0 m 43 ls [.int q5.1, .ref (B + k)]) rfl ?_
    refine p2_2 (y := q5.1) CX hM hk_k wf_X2_30 dX2_save_43 (fun H locs σ6 eσ6 hM => ?_)
    replace h := nm_h eσ6 h
    obtain rfl := Option.some.inj h
    exact x_vret CX hr hlk hM rfl dX2_save_46
