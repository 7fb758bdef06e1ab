def rm_X3_begin : Jvm.Room := { frames := 3, cells := 0, slots := 0, locals := 63 }
set_option maxHeartbeats 4000000 in
set_option maxRecDepth 100000 in
theorem c_X3_begin (l : Launch) (E : xE) (B : Nat) {k : Nat} {x1 : Int32} {x2 : Int32} {x3 : Int32} {x4 : Int32} {σ : xM} {q : Unit × xM} (hk_k : kd k = 3) (h : F_X3_begin k x1 x2 x3 x4 σ = some q) : Met l yX3_begin (Cond.code yX3_begin cX3_begin 5 none :: AL) rm_X3_begin (xP E B 160 (layX E B) [.ref (B + k), .int x1, .int x2, .int x3, .int x4] σ) (xQ E B 160 (layX E B) none q.2) 0 0 (wA B 160) := by
  refine x_met (plainFor_of_name (by decide +kernel)) (Nat.le_of_ble_eq_true rfl) rfl ?_
  intro p e s m below meth c ls CX hr hlk hM hl
  have hx := CX.1.1
  have hb := CX.1.2.1
  unfold F_X3_begin at h
  refine lv_aload_n hx hb dX3_begin_0 rfl (lv_at hl 0 rfl) ?_
  refine lv_iload_n hx hb dX3_begin_1 rfl (lv_at hl 1 rfl) ?_
  refine p3_1 (y := x1) CX hM hk_k wf_X3_18 dX3_begin_2 (fun H locs σ1 eσ1 hM => ?_)
  replace h := nm_h eσ1 h
  refine lv_aload_n hx hb dX3_begin_5 rfl (lv_at hl 0 rfl) ?_
  refine lv_iload_n hx hb dX3_begin_6 rfl (lv_at hl 2 rfl) ?_
  refine p3_2 (y := x2) CX hM hk_k wf_X3_22 dX3_begin_7 (fun H locs σ2 eσ2 hM => ?_)
  replace h := nm_h eσ2 h
  refine lv_aload_n hx hb dX3_begin_10 rfl (lv_at hl 0 rfl) ?_
  refine lv_iload_n hx hb dX3_begin_11 rfl (lv_at hl 3 rfl) ?_
  refine p3_3 (y := x3) CX hM hk_k wf_X3_25 dX3_begin_12 (fun H locs σ3 eσ3 hM => ?_)
  replace h := nm_h eσ3 h
  refine lv_aload_n hx hb dX3_begin_15 rfl (lv_at hl 0 rfl) ?_
  refine lv_iload_n hx hb dX3_begin_16 rfl (lv_at hl 1 rfl) ?_
  refine lv_iload hx hb dX3_begin_17 (lv_at hl 4 rfl) ?_
  refine lv_imul hx hb dX3_begin_19 ?_
  refine p3_4 (y := (x1 * x4)) CX hM hk_k wf_X3_28 dX3_begin_20 (fun H locs σ4 eσ4 hM => ?_)
  replace h := nm_h eσ4 h
  refine lv_aload_n hx hb dX3_begin_23 rfl (lv_at hl 0 rfl) ?_
  refine lv_sipush (v := 20000) hx hb dX3_begin_24 (by decide) ?_
  refine p3_5 (y := 20000) CX hM hk_k wf_X3_31 dX3_begin_27 (fun H locs σ5 eσ5 hM => ?_)
  replace h := nm_h eσ5 h
  refine lv_aload_n hx hb dX3_begin_30 rfl (lv_at hl 0 rfl) ?_
  refine lv_sipush (v := 1000) hx hb dX3_begin_31 (by decide) ?_
  refine p3_6 (y := 1000) CX hM hk_k wf_X3_34 dX3_begin_34 (fun H locs σ6 eσ6 hM => ?_)
  replace h := nm_h eσ6 h
  refine lv_aload_n hx hb dX3_begin_37 rfl (lv_at hl 0 rfl) ?_
  refine lv_aload_n hx hb dX3_begin_38 rfl (lv_at hl 0 rfl) ?_
  obtain ⟨q7, eq7, h⟩ := bd_h h
  refine x_callV (As := []) CX hM (kdl hk_k rfl) (ly3 hk_k _) rfl lk_X3_37 (c_X3_temperature l E B hk_k eq7) ⟨rfl, rfl, by decide, by decide⟩ rfl hl.1 rfl (Nat.le_of_ble_eq_true rfl) dX3_begin_39 (fun H locs hM => ?_)
  refine W.eq (g2 := F0 m 42 ls [.int q7.1, .ref (B + k)]) rfl ?_
  refine p3_7 (y := q7.1) CX hM hk_k wf_X3_41 dX3_begin_42 (fun H locs σ8 eσ8 hM => ?_)
  replace h := nm_h eσ8 h
  refine lv_aload_n hx hb dX3_begin_45 rfl (lv_at hl 0 rfl) ?_
  refine lv_iconst (v := 0) hx hb dX3_begin_46 (by decide) ?_
  refine p3_8 (y := 0) CX hM hk_k wf_X3_44 dX3_begin_47 (fun H locs σ9 eσ9 hM => ?_)
  replace h := nm_h eσ9 h
  refine lv_aload_n hx hb dX3_begin_50 rfl (lv_at hl 0 rfl) ?_
  refine lv_iconst (v := 0) hx hb dX3_begin_51 (by decide) ?_
  refine p3_9 (y := 0) CX hM hk_k wf_X3_48 dX3_begin_52 (fun H locs σ10 eσ10 hM => ?_)
  replace h := nm_h eσ10 h
  refine lv_aload_n hx hb dX3_begin_55 rfl (lv_at hl 0 rfl) ?_
  refine lv_iconst (v := 0) hx hb dX3_begin_56 (by decide) ?_
  refine p3_10 (y := 0) CX hM hk_k wf_X3_51 dX3_begin_57 (fun H locs σ11 eσ11 hM => ?_)
  replace h := nm_h eσ11 h
  refine lv_aload_n hx hb dX3_begin_60 rfl (lv_at hl 0 rfl) ?_
  refine lv_iconst (v := 0) hx hb dX3_begin_61 (by decide) ?_
  refine p3_11 (y := 0) CX hM hk_k wf_X3_54 dX3_begin_62 (fun H locs σ12 eσ12 hM => ?_)
  replace h := nm_h eσ12 h
  refine lv_aload_n hx hb dX3_begin_65 rfl (lv_at hl 0 rfl) ?_
  refine lv_iconst (v := 0) hx hb dX3_begin_66 (by decide) ?_
  refine p3_12 (y := 0) CX hM hk_k wf_X3_57 dX3_begin_67 (fun H locs σ13 eσ13 hM => ?_)
  replace h := nm_h eσ13 h
  refine lv_aload_n hx hb dX3_begin_70 rfl (lv_at hl 0 rfl) ?_
  refine lv_iconst (v := 0) hx hb dX3_begin_71 (by decide) ?_
  refine p3_13 (y := 0) CX hM hk_k wf_X3_60 dX3_begin_72 (fun H locs σ14 eσ14 hM => ?_)
  replace h := nm_h eσ14 h
  refine lv_aload_n hx hb dX3_begin_75 rfl (lv_at hl 0 rfl) ?_
  refine lv_ldc (v := (-1000009)) hx hb CX.1.2.2.2.1 (x_hts CX wc_X3_63) dX3_begin_76 ?_
  refine p3_14 (y := (-1000009)) CX hM hk_k wf_X3_64 dX3_begin_78 (fun H locs σ15 eσ15 hM => ?_)
  replace h := nm_h eσ15 h
  refine lv_aload_n hx hb dX3_begin_81 rfl (lv_at hl 0 rfl) ?_
  refine lv_iconst (v := 0) hx hb dX3_begin_82 (by decide) ?_
  refine p3_15 (y := 0) CX hM hk_k wf_X3_67 dX3_begin_83 (fun H locs σ16 eσ16 hM => ?_)
  replace h := nm_h eσ16 h
  refine lv_aload_n hx hb dX3_begin_86 rfl (lv_at hl 0 rfl) ?_
  refine lv_iconst (v := 0) hx hb dX3_begin_87 (by decide) ?_
  refine p3_16 (y := 0) CX hM hk_k wf_X3_70 dX3_begin_88 (fun H locs σ17 eσ17 hM => ?_)
  replace h := nm_h eσ17 h
  refine lv_aload_n hx hb dX3_begin_91 rfl (lv_at hl 0 rfl) ?_
  refine lv_iconst (v := 0) hx hb dX3_begin_92 (by decide) ?_
  refine p3_17 (y := 0) CX hM hk_k wf_X3_73 dX3_begin_93 (fun H locs σ18 eσ18 hM => ?_)
  replace h := nm_h eσ18 h
  refine lv_aload_n hx hb dX3_begin_96 rfl (lv_at hl 0 rfl) ?_
  refine g3_0 CX hM hk_k wf_X3_12 dX3_begin_97 ?_
  refine lv_aload_n hx hb dX3_begin_100 rfl (lv_at hl 0 rfl) ?_
  refine g3_4 CX hM hk_k wf_X3_28 dX3_begin_101 ?_
  obtain ⟨q19, eq19, h⟩ := bd_h h
  refine x_callV (As := [.int (σ18 k 4)]) CX hM (kdl (kd3_f hk_k) rfl) (ly0 (kd3_f hk_k) _) rfl lk_X3_76 (c_X0_begin l E B (kd3_f hk_k) eq19) ⟨rfl, rfl, by decide, by decide⟩ rfl hl.1 rfl (Nat.le_of_ble_eq_true rfl) dX3_begin_104 (fun H locs hM => ?_)
  refine W.eq (g2 := F0 m 107 ls []) rfl ?_
  obtain rfl := Option.some.inj h
  exact x_vret CX hr hlk hM rfl dX3_begin_107
def rm_X1_beginRoom : Jvm.Room := { frames := 4, cells := 0, slots := 0, locals := 87 }
set_option maxHeartbeats 4000000 in
set_option maxRecDepth 100000 in
theorem c_X1_beginRoom (l : Launch) (E : xE) (B : Nat) {k : Nat} {x1 : Int32} {x2 : Int32} {x3 : Int32} {x4 : Int32} {σ : xM} {q : Int32 × xM} (hk_k : kd k = 1) (h : F_X1_beginRoom k x1 x2 x3 x4 σ = some q) : Met l yX1_beginRoom (Cond.code yX1_beginRoom cX1_beginRoom 7 (some .int) :: AL) rm_X1_beginRoom (xP E B 160 (layX E B) [.ref (B + k), .int x1, .int x2, .int x3, .int x4] σ) (xQ E B 160 (layX E B) (some (.int q.1)) q.2) 0 0 (wA B 160) := by
  refine x_met (plainFor_of_name (by decide +kernel)) (Nat.le_of_ble_eq_true rfl) rfl ?_
  intro p e s m below meth c ls CX hr hlk hM hl
  have hx := CX.1.1
  have hb := CX.1.2.1
  unfold F_X1_beginRoom at h
  refine lv_aload_n hx hb dX1_beginRoom_0 rfl (lv_at hl 0 rfl) ?_
  refine g1_4 CX hM hk_k wf_X1_45 dX1_beginRoom_1 ?_
  refine lv_topi (fun x5_1 ex5_1 => ?_)
  replace h := nm_h ex5_1 h
  refine lv_istore (lv' := [(5, .int x5_1), (0, .ref (B + k)), (1, .int x1), (2, .int x2), (3, .int x3), (4, .int x4)]) hx hb dX1_beginRoom_4 hl (by decide) rfl (fun ls hl => ?_)
  refine lv_aload_n hx hb dX1_beginRoom_6 rfl (lv_at hl 1 rfl) ?_
  refine lv_dup hx hb dX1_beginRoom_7 rfl ?_
  refine g1_4 CX hM hk_k wf_X1_45 dX1_beginRoom_8 ?_
  refine lv_iconst (v := 1) hx hb dX1_beginRoom_11 (by decide) ?_
  refine lv_iadd hx hb dX1_beginRoom_12 ?_
  refine p1_4 (y := ((σ k 4) + 1)) CX hM hk_k wf_X1_45 dX1_beginRoom_13 (fun H locs σ2 eσ2 hM => ?_)
  replace h := nm_h eσ2 h
  refine lv_aload_n hx hb dX1_beginRoom_16 rfl (lv_at hl 1 rfl) ?_
  refine lv_iload hx hb dX1_beginRoom_17 (lv_at hl 0 rfl) ?_
  obtain ⟨q3, eq3, h⟩ := bd_h h
  refine x_callV (As := [.int x5_1]) CX hM (kdl hk_k rfl) (ly1 hk_k _) rfl lk_X1_52 (c_X1_roomAt l E B hk_k eq3) ⟨rfl, rfl, by decide, by decide⟩ rfl hl.1 rfl (Nat.le_of_ble_eq_true rfl) dX1_beginRoom_19 (fun H locs hM => ?_)
  rcases hq3 : q3.1 with _ | r4
  · rw [hq3] at h
    replace h := oc_n h
    refine W.eq (g2 := F0 m 22 ls [.null]) rfl ?_
    refine lv_astoreN (lv' := [(6, .null), (5, .int x5_1), (0, .ref (B + k)), (1, .int x1), (2, .int x2), (3, .int x3), (4, .int x4)]) hx hb dX1_beginRoom_22 hl (by decide) rfl (fun ls hl => ?_)
    refine lv_aloadN hx hb dX1_beginRoom_24 (lv_at hl 0 rfl) ?_
    refine lv_ifnullN (tgt := 39) hx hb dX1_beginRoom_26 (by decide) ?_
    refine lv_iload hx hb dX1_beginRoom_39 (lv_at hl 1 rfl) ?_
    obtain rfl := Option.some.inj h
    exact x_iret CX hr hlk hM rfl dX1_beginRoom_41
  · rw [hq3] at h
    replace h := oc_s h
    obtain ⟨hk_r4, h⟩ := ck_h h
    refine W.eq (g2 := F0 m 22 ls [.ref (B + r4)]) rfl ?_
    refine lv_astore (lv' := [(6, .ref (B + r4)), (5, .int x5_1), (0, .ref (B + k)), (1, .int x1), (2, .int x2), (3, .int x3), (4, .int x4)]) hx hb dX1_beginRoom_22 hl (by decide) rfl (fun ls hl => ?_)
    refine lv_aload hx hb dX1_beginRoom_24 (lv_at hl 0 rfl) ?_
    refine lv_ifnull hx hb dX1_beginRoom_26 ?_
    refine lv_aload hx hb dX1_beginRoom_29 (lv_at hl 0 rfl) ?_
    refine lv_iload_n hx hb dX1_beginRoom_31 rfl (lv_at hl 3 rfl) ?_
    refine lv_iload_n hx hb dX1_beginRoom_32 rfl (lv_at hl 4 rfl) ?_
    refine lv_iload_n hx hb dX1_beginRoom_33 rfl (lv_at hl 5 rfl) ?_
    refine lv_iload hx hb dX1_beginRoom_34 (lv_at hl 6 rfl) ?_
    obtain ⟨q5, eq5, h⟩ := bd_h h
    refine x_callV (As := [.int x1, .int x2, .int x3, .int x4]) CX hM (kdl hk_r4 rfl) (ly3 hk_r4 _) rfl lk_X1_59 (c_X3_begin l E B hk_r4 eq5) ⟨rfl, rfl, by decide, by decide⟩ rfl hl.1 rfl (Nat.le_of_ble_eq_true rfl) dX1_beginRoom_36 (fun H locs hM => ?_)
    refine W.eq (g2 := F0 m 39 ls []) rfl ?_
    refine lv_iload hx hb dX1_beginRoom_39 (lv_at hl 1 rfl) ?_
    obtain rfl := Option.some.inj h
    exact x_iret CX hr hlk hM rfl dX1_beginRoom_41
def rm_X1_hasPair : Jvm.Room := { frames := 1, cells := 0, slots := 0, locals := 21 }
set_option maxHeartbeats 4000000 in
set_option maxRecDepth 100000 in
theorem c_X1_hasPair (l : Launch) (E : xE) (B : Nat) {k : Nat} {x1 : Int32} {x2 : Int32} {σ : xM} {q : Int32 × xM} (hk_k : kd k = 1) (h : F_X1_hasPair k x1 x2 σ = some q) : Met l yX1_hasPair (Cond.code yX1_hasPair cX1_hasPair 3 (some .boolean) :: AL) rm_X1_hasPair (xP E B 160 (layX E B) [.ref (B + k), .int x1, .int x2] σ) (xQ E B 160 (layX E B) (some (.int (bz q.1))) q.2) 0 0 (wA B 160) := by
  refine x_met (plainFor_of_name (by decide +kernel)) (Nat.le_of_ble_eq_true rfl) rfl ?_
  intro p e s m below meth c ls CX hr hlk hM hl
  have hx := CX.1.1
  have hb := CX.1.2.1
  unfold F_X1_hasPair at h
  refine lv_iload_n hx hb dX1_hasPair_0 rfl (lv_at hl 1 rfl) ?_
  refine lv_iload_n hx hb dX1_hasPair_1 rfl (lv_at hl 2 rfl) ?_
  refine lv_icmp_eq (tgt := 25) hx hb dX1_hasPair_2 (by decide) (fun c1 => ?_) (fun c1 => ?_)
  · replace h := it_h c1 h
    refine lv_iconst (v := 0) hx hb dX1_hasPair_25 (by decide) ?_
    obtain rfl := Option.some.inj h
    exact x_zret (y := 0) CX hr hlk hM rfl rfl dX1_hasPair_26
  · replace h := if_h c1 h
    refine lv_aload_n hx hb dX1_hasPair_5 rfl (lv_at hl 0 rfl) ?_
    refine lv_iload_n hx hb dX1_hasPair_6 rfl (lv_at hl 1 rfl) ?_
    obtain ⟨q2, eq2, h⟩ := bd_h h
    refine x_callV (As := [.int x1]) CX hM (kdl hk_k rfl) (ly1 hk_k _) rfl lk_X1_52 (c_X1_roomAt l E B hk_k eq2) ⟨rfl, rfl, by decide, by decide⟩ rfl hl.1 rfl (Nat.le_of_ble_eq_true rfl) dX1_hasPair_7 (fun H locs hM => ?_)
    rcases hq2 : q2.1 with _ | r3
    · rw [hq2] at h
      replace h := oc_n h
      refine W.eq (g2 := F0 m 10 ls [.null]) rfl ?_
      refine lv_ifnullN (tgt := 25) hx hb dX1_hasPair_10 (by decide) ?_
      refine lv_iconst (v := 0) hx hb dX1_hasPair_25 (by decide) ?_
      obtain rfl := Option.some.inj h
      exact x_zret (y := 0) CX hr hlk hM rfl rfl dX1_hasPair_26
    · rw [hq2] at h
      replace h := oc_s h
      obtain ⟨hk_r3, h⟩ := ck_h h
      refine W.eq (g2 := F0 m 10 ls [.ref (B + r3)]) rfl ?_
      refine lv_ifnull hx hb dX1_hasPair_10 ?_
      refine lv_aload_n hx hb dX1_hasPair_13 rfl (lv_at hl 0 rfl) ?_
      refine lv_iload_n hx hb dX1_hasPair_14 rfl (lv_at hl 2 rfl) ?_
      obtain ⟨q4, eq4, h⟩ := bd_h h
      refine x_callV (As := [.int x2]) CX hM (kdl hk_k rfl) (ly1 hk_k _) rfl lk_X1_52 (c_X1_roomAt l E B hk_k eq4) ⟨rfl, rfl, by decide, by decide⟩ rfl hl.1 rfl (Nat.le_of_ble_eq_true rfl) dX1_hasPair_15 (fun H locs hM => ?_)
      rcases hq4 : q4.1 with _ | r5
      · rw [hq4] at h
        replace h := oc_n h
        refine W.eq (g2 := F0 m 18 ls [.null]) rfl ?_
        refine lv_ifnullN (tgt := 25) hx hb dX1_hasPair_18 (by decide) ?_
        refine lv_iconst (v := 0) hx hb dX1_hasPair_25 (by decide) ?_
        obtain rfl := Option.some.inj h
        exact x_zret (y := 0) CX hr hlk hM rfl rfl dX1_hasPair_26
      · rw [hq4] at h
        replace h := oc_s h
        obtain ⟨hk_r5, h⟩ := ck_h h
        refine W.eq (g2 := F0 m 18 ls [.ref (B + r5)]) rfl ?_
        refine lv_ifnull hx hb dX1_hasPair_18 ?_
        refine lv_iconst (v := 1) hx hb dX1_hasPair_21 (by decide) ?_
        refine lv_goto (tgt := 26) hx hb dX1_hasPair_22 (by decide) ?_
        obtain rfl := Option.some.inj h
        exact x_zret (y := 1) CX hr hlk hM rfl rfl dX1_hasPair_26
def rm_X1_linkPlace : Jvm.Room := { frames := 0, cells := 0, slots := 0, locals := 0 }
set_option maxHeartbeats 4000000 in
set_option maxRecDepth 100000 in
theorem c_X1_linkPlace (l : Launch) (E : xE) (B : Nat) {x0 : Int32} {x1 : Int32} {σ : xM} {q : Int32 × xM}  (h : F_X1_linkPlace x0 x1 σ = some q) : Met l yX1_linkPlace (Cond.code yX1_linkPlace cX1_linkPlace 2 (some .int) :: AL) rm_X1_linkPlace (xP E B 160 (layX E B) [.int x0, .int x1] σ) (xQ E B 160 (layX E B) (some (.int q.1)) q.2) 0 0 (wA B 160) := by
  refine x_met (plainFor_of_name (by decide +kernel)) (Nat.le_of_ble_eq_true rfl) rfl ?_
  intro p e s m below meth c ls CX hr hlk hM hl
  have hx := CX.1.1
  have hb := CX.1.2.1
  unfold F_X1_linkPlace at h
  refine lv_iload_n hx hb dX1_linkPlace_0 rfl (lv_at hl 0 rfl) ?_
  refine lv_bipush (v := 6) hx hb dX1_linkPlace_1 (by decide) ?_
  refine lv_imul hx hb dX1_linkPlace_3 ?_
  refine lv_iload_n hx hb dX1_linkPlace_4 rfl (lv_at hl 1 rfl) ?_
  refine lv_iadd hx hb dX1_linkPlace_5 ?_
  obtain rfl := Option.some.inj h
  exact x_iret CX hr hlk hM rfl dX1_linkPlace_6
def rm_X1_linkOf : Jvm.Room := { frames := 1, cells := 0, slots := 0, locals := 21 }
set_option maxHeartbeats 4000000 in
set_option maxRecDepth 100000 in
theorem c_X1_linkOf (l : Launch) (E : xE) (B : Nat) {k : Nat} {x1 : Int32} {x2 : Int32} {σ : xM} {q : Int32 × xM} (hk_k : kd k = 1) (h : F_X1_linkOf k x1 x2 σ = some q) : Met l yX1_linkOf (Cond.code yX1_linkOf cX1_linkOf 4 (some .int) :: AL) rm_X1_linkOf (xP E B 160 (layX E B) [.ref (B + k), .int x1, .int x2] σ) (xQ E B 160 (layX E B) (some (.int q.1)) q.2) 0 0 (wA B 160) := by
  refine x_met (plainFor_of_name (by decide +kernel)) (Nat.le_of_ble_eq_true rfl) rfl ?_
  intro p e s m below meth c ls CX hr hlk hM hl
  have hx := CX.1.1
  have hb := CX.1.2.1
  unfold F_X1_linkOf at h
  refine lv_iload_n hx hb dX1_linkOf_0 rfl (lv_at hl 1 rfl) ?_
  refine lv_iload_n hx hb dX1_linkOf_1 rfl (lv_at hl 2 rfl) ?_
  obtain ⟨q1, eq1, h⟩ := bd_h h
  refine x_callS (As := [.int x1, .int x2]) CX hM lk_X1_63 (c_X1_linkPlace l E B  eq1) ⟨rfl, rfl, by decide, by decide⟩ rfl hl.1 rfl (Nat.le_of_ble_eq_true rfl) dX1_linkOf_2 (fun H locs hM => ?_)
  refine W.eq (g2 := F0 m 5 ls [.int q1.1]) rfl ?_
  refine lv_istore_n (lv' := [(3, .int q1.1), (0, .ref (B + k)), (1, .int x1), (2, .int x2)]) hx hb dX1_linkOf_5 rfl hl (by decide) rfl (fun ls hl => ?_)
  refine lv_iload_n hx hb dX1_linkOf_6 rfl (lv_at hl 0 rfl) ?_
  refine lv_if_lt (tgt := 28) hx hb dX1_linkOf_7 (by decide) (fun c2 => ?_) (fun c2 => ?_)
  · replace h := it_h c2 h
    refine lv_iconst (v := 0) hx hb dX1_linkOf_28 (by decide) ?_
    obtain rfl := Option.some.inj h
    exact x_iret CX hr hlk hM rfl dX1_linkOf_29
  · replace h := if_h c2 h
    refine lv_iload_n hx hb dX1_linkOf_10 rfl (lv_at hl 0 rfl) ?_
    refine lv_aload_n hx hb dX1_linkOf_11 rfl (lv_at hl 1 rfl) ?_
    refine g1_2 CX hM hk_k wf_X1_21 dX1_linkOf_12 ?_
    refine x_alen (v := 36) CX hM 0 (kdl (kd1_f hk_k).2.2.1 rfl) (ly12 (kd1_f hk_k).2.2.1 _) rfl rfl dX1_linkOf_15 ?_
    refine lv_icmp_ge (tgt := 28) hx hb dX1_linkOf_16 (by decide) (fun c3 => ?_) (fun c3 => ?_)
    · replace h := it_h c3 h
      refine lv_iconst (v := 0) hx hb dX1_linkOf_28 (by decide) ?_
      obtain rfl := Option.some.inj h
      exact x_iret CX hr hlk hM rfl dX1_linkOf_29
    · replace h := if_h c3 h
      refine lv_aload_n hx hb dX1_linkOf_19 rfl (lv_at hl 1 rfl) ?_
      refine g1_2 CX hM hk_k wf_X1_21 dX1_linkOf_20 ?_
      refine lv_iload_n hx hb dX1_linkOf_23 rfl (lv_at hl 0 rfl) ?_
      obtain ⟨g4, h⟩ := ck_h h
      refine x_iald CX hM (kdl (kd1_f hk_k).2.2.1 rfl) (ly12 (kd1_f hk_k).2.2.1 _) g4 dX1_linkOf_24 ?_
      refine lv_goto (tgt := 29) hx hb dX1_linkOf_25 (by decide) ?_
      obtain rfl := Option.some.inj h
      exact x_iret CX hr hlk hM rfl dX1_linkOf_29
def rm_X1_putLinkAt : Jvm.Room := { frames := 0, cells := 0, slots := 0, locals := 0 }
set_option maxHeartbeats 4000000 in
set_option maxRecDepth 100000 in
theorem c_X1_putLinkAt (l : Launch) (E : xE) (B : Nat) {k : Nat} {x1 : Int32} {x2 : Int32} {σ : xM} {q : Unit × xM} (hk_k : kd k = 1) (h : F_X1_putLinkAt k x1 x2 σ = some q) : Met l yX1_putLinkAt (Cond.code yX1_putLinkAt cX1_putLinkAt 3 none :: AL) rm_X1_putLinkAt (xP E B 160 (layX E B) [.ref (B + k), .int x1, .int x2] σ) (xQ E B 160 (layX E B) none q.2) 0 0 (wA B 160) := by
  refine x_met (plainFor_of_name (by decide +kernel)) (Nat.le_of_ble_eq_true rfl) rfl ?_
  intro p e s m below meth c ls CX hr hlk hM hl
  have hx := CX.1.1
  have hb := CX.1.2.1
  unfold F_X1_putLinkAt at h
  refine lv_iload_n hx hb dX1_putLinkAt_0 rfl (lv_at hl 1 rfl) ?_
  refine lv_if_lt (tgt := 20) hx hb dX1_putLinkAt_1 (by decide) (fun c1 => ?_) (fun c1 => ?_)
  · replace h := it_h c1 h
    obtain rfl := Option.some.inj h
    exact x_vret CX hr hlk hM rfl dX1_putLinkAt_20
  · replace h := if_h c1 h
    refine lv_iload_n hx hb dX1_putLinkAt_4 rfl (lv_at hl 1 rfl) ?_
    refine lv_aload_n hx hb dX1_putLinkAt_5 rfl (lv_at hl 0 rfl) ?_
    refine g1_2 CX hM hk_k wf_X1_21 dX1_putLinkAt_6 ?_
    refine x_alen (v := 36) CX hM 0 (kdl (kd1_f hk_k).2.2.1 rfl) (ly12 (kd1_f hk_k).2.2.1 _) rfl rfl dX1_putLinkAt_9 ?_
    refine lv_icmp_ge (tgt := 20) hx hb dX1_putLinkAt_10 (by decide) (fun c2 => ?_) (fun c2 => ?_)
    · replace h := it_h c2 h
      obtain rfl := Option.some.inj h
      exact x_vret CX hr hlk hM rfl dX1_putLinkAt_20
    · replace h := if_h c2 h
      refine lv_aload_n hx hb dX1_putLinkAt_13 rfl (lv_at hl 0 rfl) ?_
      refine g1_2 CX hM hk_k wf_X1_21 dX1_putLinkAt_14 ?_
      refine lv_iload_n hx hb dX1_putLinkAt_17 rfl (lv_at hl 1 rfl) ?_
      refine lv_iload_n hx hb dX1_putLinkAt_18 rfl (lv_at hl 2 rfl) ?_
      obtain ⟨g3, h⟩ := ck_h h
      refine x_iast CX hM (kdl (kd1_f hk_k).2.2.1 rfl) (fun f => ly12 (kd1_f hk_k).2.2.1 f) g3 dX1_putLinkAt_19 (fun H locs σ4 eσ4 hM => ?_)
      replace h := nm_h eσ4 h
      obtain rfl := Option.some.inj h
      exact x_vret CX hr hlk hM rfl dX1_putLinkAt_20
def rm_X1_putLink : Jvm.Room := { frames := 1, cells := 0, slots := 0, locals := 22 }
set_option maxHeartbeats 4000000 in
set_option maxRecDepth 100000 in
theorem c_X1_putLink (l : Launch) (E : xE) (B : Nat) {k : Nat} {x1 : Int32} {x2 : Int32} {x3 : Int32} {σ : xM} {q : Unit × xM} (hk_k : kd k = 1) (h : F_X1_putLink k x1 x2 x3 σ = some q) : Met l yX1_putLink (Cond.code yX1_putLink cX1_putLink 4 none :: AL) rm_X1_putLink (xP E B 160 (layX E B) [.ref (B + k), .int x1, .int x2, .int x3] σ) (xQ E B 160 (layX E B) none q.2) 0 0 (wA B 160) := by
  refine x_met (plainFor_of_name (by decide +kernel)) (Nat.le_of_ble_eq_true rfl) rfl ?_
  intro p e s m below meth c ls CX hr hlk hM hl
  have hx := CX.1.1
  have hb := CX.1.2.1
  unfold F_X1_putLink at h
  refine lv_aload_n hx hb dX1_putLink_0 rfl (lv_at hl 0 rfl) ?_
  refine lv_iload_n hx hb dX1_putLink_1 rfl (lv_at hl 1 rfl) ?_
  refine lv_iload_n hx hb dX1_putLink_2 rfl (lv_at hl 2 rfl) ?_
  obtain ⟨q1, eq1, h⟩ := bd_h h
  refine x_callS (As := [.int x1, .int x2]) CX hM lk_X1_63 (c_X1_linkPlace l E B  eq1) ⟨rfl, rfl, by decide, by decide⟩ rfl hl.1 rfl (Nat.le_of_ble_eq_true rfl) dX1_putLink_3 (fun H locs hM => ?_)
  refine W.eq (g2 := F0 m 6 ls [.int q1.1, .ref (B + k)]) rfl ?_
  refine lv_iload_n hx hb dX1_putLink_6 rfl (lv_at hl 3 rfl) ?_
  obtain ⟨q2, eq2, h⟩ := bd_h h
  refine x_callV (As := [.int q1.1, .int x3]) CX hM (kdl hk_k rfl) (ly1 hk_k _) rfl lk_X1_67 (c_X1_putLinkAt l E B hk_k eq2) ⟨rfl, rfl, by decide, by decide⟩ rfl hl.1 rfl (Nat.le_of_ble_eq_true rfl) dX1_putLink_7 (fun H locs hM => ?_)
  refine W.eq (g2 := F0 m 10 ls []) rfl ?_
  refine lv_aload_n hx hb dX1_putLink_10 rfl (lv_at hl 0 rfl) ?_
  refine lv_iload_n hx hb dX1_putLink_11 rfl (lv_at hl 2 rfl) ?_
  refine lv_iload_n hx hb dX1_putLink_12 rfl (lv_at hl 1 rfl) ?_
  obtain ⟨q3, eq3, h⟩ := bd_h h
  refine x_callS (As := [.int x2, .int x1]) CX hM lk_X1_63 (c_X1_linkPlace l E B  eq3) ⟨rfl, rfl, by decide, by decide⟩ rfl hl.1 rfl (Nat.le_of_ble_eq_true rfl) dX1_putLink_13 (fun H locs hM => ?_)
  refine W.eq (g2 := F0 m 16 ls [.int q3.1, .ref (B + k)]) rfl ?_
  refine lv_iload_n hx hb dX1_putLink_16 rfl (lv_at hl 3 rfl) ?_
  obtain ⟨q4, eq4, h⟩ := bd_h h
  refine x_callV (As := [.int q3.1, .int x3]) CX hM (kdl hk_k rfl) (ly1 hk_k _) rfl lk_X1_67 (c_X1_putLinkAt l E B hk_k eq4) ⟨rfl, rfl, by decide, by decide⟩ rfl hl.1 rfl (Nat.le_of_ble_eq_true rfl) dX1_putLink_17 (fun H locs hM => ?_)
  refine W.eq (g2 := F0 m 20 ls []) rfl ?_
  obtain rfl := Option.some.inj h
  exact x_vret CX hr hlk hM rfl dX1_putLink_20
def rm_X1_canCarry : Jvm.Room := { frames := 2, cells := 0, slots := 0, locals := 44 }
set_option maxHeartbeats 4000000 in
set_option maxRecDepth 100000 in
theorem c_X1_canCarry (l : Launch) (E : xE) (B : Nat) {k : Nat} {x1 : Int32} {x2 : Int32} {σ : xM} {q : Int32 × xM} (hk_k : kd k = 1) (h : F_X1_canCarry k x1 x2 σ = some q) : Met l yX1_canCarry (Cond.code yX1_canCarry cX1_canCarry 6 (some .boolean) :: AL) rm_X1_canCarry (xP E B 160 (layX E B) [.ref (B + k), .int x1, .int x2] σ) (xQ E B 160 (layX E B) (some (.int (bz q.1))) q.2) 0 0 (wA B 160) := by
  refine x_met (plainFor_of_name (by decide +kernel)) (Nat.le_of_ble_eq_true rfl) rfl ?_
  intro p e s m below meth c ls CX hr hlk hM hl
  have hx := CX.1.1
  have hb := CX.1.2.1
  unfold F_X1_canCarry at h
  have L23 : ∀ (N : Nat) (v1 : Int32) (u3 : Nat) (v4 : Int32) (v5 : Int32) (σ : xM), kd u3 = 3 → ∀ (H : Heap) (locs : List Loc) (ls : Array Slot), xS E B 160 (layX E B) s σ H locs → lv_has ls 6 [(0, .ref (B + k)), (1, .int v1), (3, .ref (B + u3)), (4, .int v4), (5, .int v5)] → F_X1_canCarry_L23 k N v1 u3 v4 v5 σ = some q → W p l e rm_X1_canCarry s m ([.ref (B + k), .int x1, .int x2] : List Value).toArray below meth c H locs 0 0 (MQ below (xQ E B 160 (layX E B) (some (.int (bz q.1))) q.2) ([.ref (B + k), .int x1, .int x2] : List Value).toArray s 0 0 (wA B 160)) (F0 m 23 ls []) := by
    clear hM hl h
    intro N
    induction N with
    | zero =>
      intro v1 u3 v4 v5 σ hk_u3 H locs ls hM hl h
      cases h
    | succ N ih =>
      intro v1 u3 v4 v5 σ hk_u3 H locs ls hM hl h
      rw [F_X1_canCarry_L23] at h
      refine lv_iload hx hb dX1_canCarry_23 (lv_at hl 4 rfl) ?_
      refine lv_aload_n hx hb dX1_canCarry_25 rfl (lv_at hl 0 rfl) ?_
      refine g1_4 CX hM hk_k wf_X1_45 dX1_canCarry_26 ?_
      refine lv_icmp_ge (tgt := 50) hx hb dX1_canCarry_29 (by decide) (fun c4 => ?_) (fun c4 => ?_)
      · replace h := it_h c4 h
        refine lv_iload hx hb dX1_canCarry_50 (lv_at hl 3 rfl) ?_
        refine lv_aload_n hx hb dX1_canCarry_52 rfl (lv_at hl 2 rfl) ?_
        refine g3_1 CX hM hk_u3 wf_X1_77 dX1_canCarry_53 ?_
        refine lv_iconst (v := 2) hx hb dX1_canCarry_56 (by decide) ?_
        refine lv_idiv hx hb dX1_canCarry_57 (by decide) ?_
        refine lv_icmp_gt (tgt := 65) hx hb dX1_canCarry_58 (by decide) (fun c5 => ?_) (fun c5 => ?_)
        · replace h := it_h c5 h
          refine lv_iconst (v := 0) hx hb dX1_canCarry_65 (by decide) ?_
          obtain rfl := Option.some.inj h
          exact x_zret (y := 0) CX hr hlk hM rfl rfl dX1_canCarry_66
        · replace h := if_h c5 h
          refine lv_iconst (v := 1) hx hb dX1_canCarry_61 (by decide) ?_
          refine lv_goto (tgt := 66) hx hb dX1_canCarry_62 (by decide) ?_
          obtain rfl := Option.some.inj h
          exact x_zret (y := 1) CX hr hlk hM rfl rfl dX1_canCarry_66
      · replace h := if_h c4 h
        refine lv_iload hx hb dX1_canCarry_32 (lv_at hl 3 rfl) ?_
        refine lv_aload_n hx hb dX1_canCarry_34 rfl (lv_at hl 0 rfl) ?_
        refine lv_iload_n hx hb dX1_canCarry_35 rfl (lv_at hl 1 rfl) ?_
        refine lv_iload hx hb dX1_canCarry_36 (lv_at hl 4 rfl) ?_
        obtain ⟨q6, eq6, h⟩ := bd_h h
        refine x_callV (As := [.int v1, .int v5]) CX hM (kdl hk_k rfl) (ly1 hk_k _) rfl lk_X1_74 (c_X1_linkOf l E B hk_k eq6) ⟨rfl, rfl, by decide, by decide⟩ rfl hl.1 rfl (Nat.le_of_ble_eq_true rfl) dX1_canCarry_38 (fun H locs hM => ?_)
        refine W.eq (g2 := F0 m 41 ls [.int q6.1, .int v4]) rfl ?_
        refine lv_iadd hx hb dX1_canCarry_41 ?_
        refine lv_topi (fun x4_7 ex4_7 => ?_)
        replace h := nm_h ex4_7 h
        refine lv_istore (lv' := [(4, .int x4_7), (0, .ref (B + k)), (1, .int v1), (3, .ref (B + u3)), (5, .int v5)]) hx hb dX1_canCarry_42 hl (by decide) rfl (fun ls hl => ?_)
        refine lv_iinc (v := (v5 + 1)) (lv' := [(5, .int (v5 + 1)), (4, .int x4_7), (0, .ref (B + k)), (1, .int v1), (3, .ref (B + u3))]) hx hb dX1_canCarry_44 hl (k := 4) rfl rfl (by decide) rfl (fun ls hl => ?_)
        refine lv_goto (tgt := 23) hx hb dX1_canCarry_47 (by decide) ?_
        exact ih _ _ _ _ _ hk_u3 _ _ _ hM (lv_sub hl [2, 3, 4, 1, 0] rfl) h
  refine lv_aload_n hx hb dX1_canCarry_0 rfl (lv_at hl 0 rfl) ?_
  refine lv_iload_n hx hb dX1_canCarry_1 rfl (lv_at hl 1 rfl) ?_
  obtain ⟨q1, eq1, h⟩ := bd_h h
  refine x_callV (As := [.int x1]) CX hM (kdl hk_k rfl) (ly1 hk_k _) rfl lk_X1_52 (c_X1_roomAt l E B hk_k eq1) ⟨rfl, rfl, by decide, by decide⟩ rfl hl.1 rfl (Nat.le_of_ble_eq_true rfl) dX1_canCarry_2 (fun H locs hM => ?_)
  rcases hq1 : q1.1 with _ | r2
  · rw [hq1] at h
    replace h := oc_n h
    refine W.eq (g2 := F0 m 5 ls [.null]) rfl ?_
    refine lv_astore_nN (lv' := [(3, .null), (0, .ref (B + k)), (1, .int x1), (2, .int x2)]) hx hb dX1_canCarry_5 rfl hl (by decide) rfl (fun ls hl => ?_)
    refine lv_aload_nN hx hb dX1_canCarry_6 rfl (lv_at hl 0 rfl) ?_
    refine lv_ifnonnullN hx hb dX1_canCarry_7 ?_
    refine lv_iconst (v := 0) hx hb dX1_canCarry_10 (by decide) ?_
    obtain rfl := Option.some.inj h
    exact x_zret (y := 0) CX hr hlk hM rfl rfl dX1_canCarry_11
  · rw [hq1] at h
    replace h := oc_s h
    obtain ⟨hk_r2, h⟩ := ck_h h
    refine W.eq (g2 := F0 m 5 ls [.ref (B + r2)]) rfl ?_
    refine lv_astore_n (lv' := [(3, .ref (B + r2)), (0, .ref (B + k)), (1, .int x1), (2, .int x2)]) hx hb dX1_canCarry_5 rfl hl (by decide) rfl (fun ls hl => ?_)
    refine lv_aload_n hx hb dX1_canCarry_6 rfl (lv_at hl 0 rfl) ?_
    refine lv_ifnonnull (tgt := 12) hx hb dX1_canCarry_7 (by decide) ?_
    refine lv_aload_n hx hb dX1_canCarry_12 rfl (lv_at hl 0 rfl) ?_
    refine g3_3 CX hM hk_r2 wf_X1_71 dX1_canCarry_13 ?_
    refine lv_iload_n hx hb dX1_canCarry_16 rfl (lv_at hl 3 rfl) ?_
    refine lv_iadd hx hb dX1_canCarry_17 ?_
    refine lv_topi (fun x4_3 ex4_3 => ?_)
    replace h := nm_h ex4_3 h
    refine lv_istore (lv' := [(4, .int x4_3), (3, .ref (B + r2)), (0, .ref (B + k)), (1, .int x1), (2, .int x2)]) hx hb dX1_canCarry_18 hl (by decide) rfl (fun ls hl => ?_)
    refine lv_iconst (v := 0) hx hb dX1_canCarry_20 (by decide) ?_
    refine lv_istore (lv' := [(5, .int 0), (4, .int x4_3), (3, .ref (B + r2)), (0, .ref (B + k)), (1, .int x1), (2, .int x2)]) hx hb dX1_canCarry_21 hl (by decide) rfl (fun ls hl => ?_)
    exact L23 _ _ _ _ _ _ hk_r2 _ _ _ hM (lv_sub hl [3, 4, 2, 1, 0] rfl) h
def rm_X1_isSuspect : Jvm.Room := { frames := 1, cells := 0, slots := 0, locals := 21 }
set_option maxHeartbeats 4000000 in
set_option maxRecDepth 100000 in
theorem c_X1_isSuspect (l : Launch) (E : xE) (B : Nat) {k : Nat} {r1 : Nat} {σ : xM} {q : Int32 × xM} (hk_k : kd k = 1) (hk_r1 : kd r1 = 3) (h : F_X1_isSuspect k r1 σ = some q) : Met l yX1_isSuspect (Cond.code yX1_isSuspect cX1_isSuspect 2 (some .boolean) :: AL) rm_X1_isSuspect (xP E B 160 (layX E B) [.ref (B + k), .ref (B + r1)] σ) (xQ E B 160 (layX E B) (some (.int (bz q.1))) q.2) 0 0 (wA B 160) := by
  refine x_met (plainFor_of_name (by decide +kernel)) (Nat.le_of_ble_eq_true rfl) rfl ?_
  intro p e s m below meth c ls CX hr hlk hM hl
  have hx := CX.1.1
  have hb := CX.1.2.1
  unfold F_X1_isSuspect at h
  refine lv_aload_n hx hb dX1_isSuspect_0 rfl (lv_at hl 1 rfl) ?_
  refine g3_16 CX hM hk_r1 wf_X1_80 dX1_isSuspect_1 ?_
  refine lv_aload_n hx hb dX1_isSuspect_4 rfl (lv_at hl 0 rfl) ?_
  refine lv_bipush (v := 6) hx hb dX1_isSuspect_5 (by decide) ?_
  obtain ⟨q1, eq1, h⟩ := bd_h h
  refine x_callV (As := [.int 6]) CX hM (kdl hk_k rfl) (ly1 hk_k _) rfl lk_X1_83 (c_X1_number l E B hk_k eq1) ⟨rfl, rfl, by decide, by decide⟩ rfl hl.1 rfl (Nat.le_of_ble_eq_true rfl) dX1_isSuspect_7 (fun H locs hM => ?_)
  refine W.eq (g2 := F0 m 10 ls [.int q1.1, .int (σ r1 16)]) rfl ?_
  refine lv_icmp_lt (tgt := 17) hx hb dX1_isSuspect_10 (by decide) (fun c2 => ?_) (fun c2 => ?_)
  · replace h := it_h c2 h
    refine lv_iconst (v := 0) hx hb dX1_isSuspect_17 (by decide) ?_
    obtain rfl := Option.some.inj h
    exact x_zret (y := 0) CX hr hlk hM rfl rfl dX1_isSuspect_18
  · replace h := if_h c2 h
    refine lv_iconst (v := 1) hx hb dX1_isSuspect_13 (by decide) ?_
    refine lv_goto (tgt := 18) hx hb dX1_isSuspect_14 (by decide) ?_
    obtain rfl := Option.some.inj h
    exact x_zret (y := 1) CX hr hlk hM rfl rfl dX1_isSuspect_18
def rm_X1_suspectRooms : Jvm.Room := { frames := 2, cells := 0, slots := 0, locals := 42 }
set_option maxHeartbeats 4000000 in
set_option maxRecDepth 100000 in
theorem c_X1_suspectRooms (l : Launch) (E : xE) (B : Nat) {k : Nat} {σ : xM} {q : Int32 × xM} (hk_k : kd k = 1) (h : F_X1_suspectRooms k σ = some q) : Met l yX1_suspectRooms (Cond.code yX1_suspectRooms cX1_suspectRooms 4 (some .int) :: AL) rm_X1_suspectRooms (xP E B 160 (layX E B) [.ref (B + k)] σ) (xQ E B 160 (layX E B) (some (.int q.1)) q.2) 0 0 (wA B 160) := by
  refine x_met (plainFor_of_name (by decide +kernel)) (Nat.le_of_ble_eq_true rfl) rfl ?_
  intro p e s m below meth c ls CX hr hlk hM hl
  have hx := CX.1.1
  have hb := CX.1.2.1
  unfold F_X1_suspectRooms at h
  have L4 : ∀ (N : Nat) (v1 : Int32) (v2 : Int32) (σ : xM), ∀ (H : Heap) (locs : List Loc) (ls : Array Slot), xS E B 160 (layX E B) s σ H locs → lv_has ls 4 [(0, .ref (B + k)), (1, .int v1), (2, .int v2)] → F_X1_suspectRooms_L4 k N v1 v2 σ = some q → W p l e rm_X1_suspectRooms s m ([.ref (B + k)] : List Value).toArray below meth c H locs 0 0 (MQ below (xQ E B 160 (layX E B) (some (.int q.1)) q.2) ([.ref (B + k)] : List Value).toArray s 0 0 (wA B 160)) (F0 m 4 ls []) := by
    clear hM hl h
    intro N
    induction N with
    | zero =>
      intro v1 v2 σ  H locs ls hM hl h
      cases h
    | succ N ih =>
      intro v1 v2 σ  H locs ls hM hl h
      rw [F_X1_suspectRooms_L4] at h
      refine lv_iload_n hx hb dX1_suspectRooms_4 rfl (lv_at hl 2 rfl) ?_
      refine lv_aload_n hx hb dX1_suspectRooms_5 rfl (lv_at hl 0 rfl) ?_
      refine g1_4 CX hM hk_k wf_X1_45 dX1_suspectRooms_6 ?_
      refine lv_icmp_ge (tgt := 44) hx hb dX1_suspectRooms_9 (by decide) (fun c1 => ?_) (fun c1 => ?_)
      · replace h := it_h c1 h
        refine lv_iload_n hx hb dX1_suspectRooms_44 rfl (lv_at hl 1 rfl) ?_
        obtain rfl := Option.some.inj h
        exact x_iret CX hr hlk hM rfl dX1_suspectRooms_45
      · replace h := if_h c1 h
        refine lv_aload_n hx hb dX1_suspectRooms_12 rfl (lv_at hl 0 rfl) ?_
        refine lv_iload_n hx hb dX1_suspectRooms_13 rfl (lv_at hl 2 rfl) ?_
        obtain ⟨q2, eq2, h⟩ := bd_h h
        refine x_callV (As := [.int v2]) CX hM (kdl hk_k rfl) (ly1 hk_k _) rfl lk_X1_52 (c_X1_roomAt l E B hk_k eq2) ⟨rfl, rfl, by decide, by decide⟩ rfl hl.1 rfl (Nat.le_of_ble_eq_true rfl) dX1_suspectRooms_14 (fun H locs hM => ?_)
        rcases hq2 : q2.1 with _ | r3
        · rw [hq2] at h
          replace h := oc_n h
          refine W.eq (g2 := F0 m 17 ls [.null]) rfl ?_
          refine lv_astore_nN (lv' := [(3, .null), (0, .ref (B + k)), (1, .int v1), (2, .int v2)]) hx hb dX1_suspectRooms_17 rfl hl (by decide) rfl (fun ls hl => ?_)
          refine lv_iload_n hx hb dX1_suspectRooms_18 rfl (lv_at hl 2 rfl) ?_
          refine lv_aload_nN hx hb dX1_suspectRooms_19 rfl (lv_at hl 0 rfl) ?_
          refine lv_ifnullN (tgt := 35) hx hb dX1_suspectRooms_20 (by decide) ?_
          refine lv_iconst (v := 0) hx hb dX1_suspectRooms_35 (by decide) ?_
          refine lv_iadd hx hb dX1_suspectRooms_36 ?_
          refine lv_topi (fun x1_4 ex1_4 => ?_)
          replace h := nm_h ex1_4 h
          refine lv_istore_n (lv' := [(1, .int x1_4), (3, .null), (0, .ref (B + k)), (2, .int v2)]) hx hb dX1_suspectRooms_37 rfl hl (by decide) rfl (fun ls hl => ?_)
          refine lv_iinc (v := (v2 + 1)) (lv' := [(2, .int (v2 + 1)), (1, .int x1_4), (3, .null), (0, .ref (B + k))]) hx hb dX1_suspectRooms_38 hl (k := 3) rfl rfl (by decide) rfl (fun ls hl => ?_)
          refine lv_goto (tgt := 4) hx hb dX1_suspectRooms_41 (by decide) ?_
          exact ih _ _ _  _ _ _ hM (lv_sub hl [3, 1, 0] rfl) h
        · rw [hq2] at h
          replace h := oc_s h
          obtain ⟨hk_r3, h⟩ := ck_h h
          refine W.eq (g2 := F0 m 17 ls [.ref (B + r3)]) rfl ?_
          refine lv_astore_n (lv' := [(3, .ref (B + r3)), (0, .ref (B + k)), (1, .int v1), (2, .int v2)]) hx hb dX1_suspectRooms_17 rfl hl (by decide) rfl (fun ls hl => ?_)
          refine lv_iload_n hx hb dX1_suspectRooms_18 rfl (lv_at hl 2 rfl) ?_
          refine lv_aload_n hx hb dX1_suspectRooms_19 rfl (lv_at hl 0 rfl) ?_
          refine lv_ifnull hx hb dX1_suspectRooms_20 ?_
          refine lv_aload_n hx hb dX1_suspectRooms_23 rfl (lv_at hl 1 rfl) ?_
          refine lv_aload_n hx hb dX1_suspectRooms_24 rfl (lv_at hl 0 rfl) ?_
          obtain ⟨q5, eq5, h⟩ := bd_h h
          refine x_callV (As := [.ref (B + r3)]) CX hM (kdl hk_k rfl) (ly1 hk_k _) rfl lk_X1_87 (c_X1_isSuspect l E B hk_k hk_r3 eq5) ⟨rfl, rfl, by decide, by decide⟩ rfl hl.1 rfl (Nat.le_of_ble_eq_true rfl) dX1_suspectRooms_25 (fun H locs hM => ?_)
          refine W.eq (g2 := F0 m 28 ls [.int (bz q5.1), .int v1]) rfl ?_
          refine lv_if_eq (tgt := 35) hx hb dX1_suspectRooms_28 (by decide) (fun c6 => ?_) (fun c6 => ?_)
          · replace h := it_h c6 h
            refine lv_iconst (v := 0) hx hb dX1_suspectRooms_35 (by decide) ?_
            refine lv_iadd hx hb dX1_suspectRooms_36 ?_
            refine lv_topi (fun x1_7 ex1_7 => ?_)
            replace h := nm_h ex1_7 h
            refine lv_istore_n (lv' := [(1, .int x1_7), (3, .ref (B + r3)), (0, .ref (B + k)), (2, .int v2)]) hx hb dX1_suspectRooms_37 rfl hl (by decide) rfl (fun ls hl => ?_)
            refine lv_iinc (v := (v2 + 1)) (lv' := [(2, .int (v2 + 1)), (1, .int x1_7), (3, .ref (B + r3)), (0, .ref (B + k))]) hx hb dX1_suspectRooms_38 hl (k := 3) rfl rfl (by decide) rfl (fun ls hl => ?_)
            refine lv_goto (tgt := 4) hx hb dX1_suspectRooms_41 (by decide) ?_
            exact ih _ _ _  _ _ _ hM (lv_sub hl [3, 1, 0] rfl) h
          · replace h := if_h c6 h
            refine lv_iconst (v := 1) hx hb dX1_suspectRooms_31 (by decide) ?_
            refine lv_goto (tgt := 36) hx hb dX1_suspectRooms_32 (by decide) ?_
            refine lv_iadd hx hb dX1_suspectRooms_36 ?_
            refine lv_topi (fun x1_8 ex1_8 => ?_)
            replace h := nm_h ex1_8 h
            refine lv_istore_n (lv' := [(1, .int x1_8), (3, .ref (B + r3)), (0, .ref (B + k)), (2, .int v2)]) hx hb dX1_suspectRooms_37 rfl hl (by decide) rfl (fun ls hl => ?_)
            refine lv_iinc (v := (v2 + 1)) (lv' := [(2, .int (v2 + 1)), (1, .int x1_8), (3, .ref (B + r3)), (0, .ref (B + k))]) hx hb dX1_suspectRooms_38 hl (k := 3) rfl rfl (by decide) rfl (fun ls hl => ?_)
            refine lv_goto (tgt := 4) hx hb dX1_suspectRooms_41 (by decide) ?_
            exact ih _ _ _  _ _ _ hM (lv_sub hl [3, 1, 0] rfl) h
  refine lv_iconst (v := 0) hx hb dX1_suspectRooms_0 (by decide) ?_
  refine lv_istore_n (lv' := [(1, .int 0), (0, .ref (B + k))]) hx hb dX1_suspectRooms_1 rfl hl (by decide) rfl (fun ls hl => ?_)
  refine lv_iconst (v := 0) hx hb dX1_suspectRooms_2 (by decide) ?_
  refine lv_istore_n (lv' := [(2, .int 0), (1, .int 0), (0, .ref (B + k))]) hx hb dX1_suspectRooms_3 rfl hl (by decide) rfl (fun ls hl => ?_)
  exact L4 _ _ _ _  _ _ _ hM (lv_sub hl [2, 1, 0] rfl) h
def rm_X1_allFines : Jvm.Room := { frames := 1, cells := 0, slots := 0, locals := 21 }
set_option maxHeartbeats 4000000 in
set_option maxRecDepth 100000 in
theorem c_X1_allFines (l : Launch) (E : xE) (B : Nat) {k : Nat} {σ : xM} {q : Int32 × xM} (hk_k : kd k = 1) (h : F_X1_allFines k σ = some q) : Met l yX1_allFines (Cond.code yX1_allFines cX1_allFines 4 (some .int) :: AL) rm_X1_allFines (xP E B 160 (layX E B) [.ref (B + k)] σ) (xQ E B 160 (layX E B) (some (.int q.1)) q.2) 0 0 (wA B 160) := by
  refine x_met (plainFor_of_name (by decide +kernel)) (Nat.le_of_ble_eq_true rfl) rfl ?_
  intro p e s m below meth c ls CX hr hlk hM hl
  have hx := CX.1.1
  have hb := CX.1.2.1
  unfold F_X1_allFines at h
  have L4 : ∀ (N : Nat) (v1 : Int32) (v2 : Int32) (σ : xM), ∀ (H : Heap) (locs : List Loc) (ls : Array Slot), xS E B 160 (layX E B) s σ H locs → lv_has ls 4 [(0, .ref (B + k)), (1, .int v1), (2, .int v2)] → F_X1_allFines_L4 k N v1 v2 σ = some q → W p l e rm_X1_allFines s m ([.ref (B + k)] : List Value).toArray below meth c H locs 0 0 (MQ below (xQ E B 160 (layX E B) (some (.int q.1)) q.2) ([.ref (B + k)] : List Value).toArray s 0 0 (wA B 160)) (F0 m 4 ls []) := by
    clear hM hl h
    intro N
    induction N with
    | zero =>
      intro v1 v2 σ  H locs ls hM hl h
      cases h
    | succ N ih =>
      intro v1 v2 σ  H locs ls hM hl h
      rw [F_X1_allFines_L4] at h
      refine lv_iload_n hx hb dX1_allFines_4 rfl (lv_at hl 2 rfl) ?_
      refine lv_aload_n hx hb dX1_allFines_5 rfl (lv_at hl 0 rfl) ?_
      refine g1_4 CX hM hk_k wf_X1_45 dX1_allFines_6 ?_
      refine lv_icmp_ge (tgt := 39) hx hb dX1_allFines_9 (by decide) (fun c1 => ?_) (fun c1 => ?_)
      · replace h := it_h c1 h
        refine lv_iload_n hx hb dX1_allFines_39 rfl (lv_at hl 1 rfl) ?_
        obtain rfl := Option.some.inj h
        exact x_iret CX hr hlk hM rfl dX1_allFines_40
      · replace h := if_h c1 h
        refine lv_aload_n hx hb dX1_allFines_12 rfl (lv_at hl 0 rfl) ?_
        refine lv_iload_n hx hb dX1_allFines_13 rfl (lv_at hl 2 rfl) ?_
        obtain ⟨q2, eq2, h⟩ := bd_h h
        refine x_callV (As := [.int v2]) CX hM (kdl hk_k rfl) (ly1 hk_k _) rfl lk_X1_52 (c_X1_roomAt l E B hk_k eq2) ⟨rfl, rfl, by decide, by decide⟩ rfl hl.1 rfl (Nat.le_of_ble_eq_true rfl) dX1_allFines_14 (fun H locs hM => ?_)
        rcases hq2 : q2.1 with _ | r3
        · rw [hq2] at h
          replace h := oc_n h
          refine W.eq (g2 := F0 m 17 ls [.null]) rfl ?_
          refine lv_astore_nN (lv' := [(3, .null), (0, .ref (B + k)), (1, .int v1), (2, .int v2)]) hx hb dX1_allFines_17 rfl hl (by decide) rfl (fun ls hl => ?_)
          refine lv_iload_n hx hb dX1_allFines_18 rfl (lv_at hl 2 rfl) ?_
          refine lv_aload_nN hx hb dX1_allFines_19 rfl (lv_at hl 0 rfl) ?_
          refine lv_ifnullN (tgt := 30) hx hb dX1_allFines_20 (by decide) ?_
          refine lv_iconst (v := 0) hx hb dX1_allFines_30 (by decide) ?_
          refine lv_iadd hx hb dX1_allFines_31 ?_
          refine lv_topi (fun x1_4 ex1_4 => ?_)
          replace h := nm_h ex1_4 h
          refine lv_istore_n (lv' := [(1, .int x1_4), (3, .null), (0, .ref (B + k)), (2, .int v2)]) hx hb dX1_allFines_32 rfl hl (by decide) rfl (fun ls hl => ?_)
          refine lv_iinc (v := (v2 + 1)) (lv' := [(2, .int (v2 + 1)), (1, .int x1_4), (3, .null), (0, .ref (B + k))]) hx hb dX1_allFines_33 hl (k := 3) rfl rfl (by decide) rfl (fun ls hl => ?_)
          refine lv_goto (tgt := 4) hx hb dX1_allFines_36 (by decide) ?_
          exact ih _ _ _  _ _ _ hM (lv_sub hl [3, 1, 0] rfl) h
        · rw [hq2] at h
          replace h := oc_s h
          obtain ⟨hk_r3, h⟩ := ck_h h
          refine W.eq (g2 := F0 m 17 ls [.ref (B + r3)]) rfl ?_
          refine lv_astore_n (lv' := [(3, .ref (B + r3)), (0, .ref (B + k)), (1, .int v1), (2, .int v2)]) hx hb dX1_allFines_17 rfl hl (by decide) rfl (fun ls hl => ?_)
          refine lv_iload_n hx hb dX1_allFines_18 rfl (lv_at hl 2 rfl) ?_
          refine lv_aload_n hx hb dX1_allFines_19 rfl (lv_at hl 0 rfl) ?_
          refine lv_ifnull hx hb dX1_allFines_20 ?_
          refine lv_aload_n hx hb dX1_allFines_23 rfl (lv_at hl 0 rfl) ?_
          refine g3_15 CX hM hk_r3 wf_X1_91 dX1_allFines_24 ?_
          refine lv_goto (tgt := 31) hx hb dX1_allFines_27 (by decide) ?_
          refine lv_iadd hx hb dX1_allFines_31 ?_
          refine lv_topi (fun x1_5 ex1_5 => ?_)
          replace h := nm_h ex1_5 h
          refine lv_istore_n (lv' := [(1, .int x1_5), (3, .ref (B + r3)), (0, .ref (B + k)), (2, .int v2)]) hx hb dX1_allFines_32 rfl hl (by decide) rfl (fun ls hl => ?_)
          refine lv_iinc (v := (v2 + 1)) (lv' := [(2, .int (v2 + 1)), (1, .int x1_5), (3, .ref (B + r3)), (0, .ref (B + k))]) hx hb dX1_allFines_33 hl (k := 3) rfl rfl (by decide) rfl (fun ls hl => ?_)
          refine lv_goto (tgt := 4) hx hb dX1_allFines_36 (by decide) ?_
          exact ih _ _ _  _ _ _ hM (lv_sub hl [3, 1, 0] rfl) h
  refine lv_iconst (v := 0) hx hb dX1_allFines_0 (by decide) ?_
  refine lv_istore_n (lv' := [(1, .int 0), (0, .ref (B + k))]) hx hb dX1_allFines_1 rfl hl (by decide) rfl (fun ls hl => ?_)
  refine lv_iconst (v := 0) hx hb dX1_allFines_2 (by decide) ?_
  refine lv_istore_n (lv' := [(2, .int 0), (1, .int 0), (0, .ref (B + k))]) hx hb dX1_allFines_3 rfl hl (by decide) rfl (fun ls hl => ?_)
  exact L4 _ _ _ _  _ _ _ hM (lv_sub hl [2, 1, 0] rfl) h
