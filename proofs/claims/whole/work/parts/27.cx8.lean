def rm_X6_link : Jvm.Room := { frames := 2, cells := 0, slots := 0, locals := 44 }
set_option maxHeartbeats 4000000 in
set_option maxRecDepth 100000 in
theorem c_X6_link (l : Launch) (E : xE) (B : Nat) {k : Nat} {x1 : Int32} {x2 : Int32} {σ : xM} {q : Int32 × xM} (hk_k : kd k = 6) (h : F_X6_link k x1 x2 σ = some q) : Met l yX6_link (Cond.code yX6_link cX6_link 3 (some .int) :: AL) rm_X6_link (xP E B 160 (layX E B) [.ref (B + k), .int x1, .int x2] σ) (xQ E B 160 (layX E B) (some (.int q.1)) q.2) 0 0 (wA B 160) := by
  refine x_met (plainFor_of_name (by decide +kernel)) (Nat.le_of_ble_eq_true rfl) rfl ?_
  intro p e s m below meth c ls CX hr hlk hM hl
  have hx := CX.1.1
  have hb := CX.1.2.1
  unfold F_X6_link at h
  refine lv_aload_n hx hb dX6_link_0 rfl (lv_at hl 0 rfl) ?_
  refine g6_0 CX hM hk_k wf_X6_10 dX6_link_1 ?_
  refine lv_iload_n hx hb dX6_link_4 rfl (lv_at hl 1 rfl) ?_
  refine lv_iload_n hx hb dX6_link_5 rfl (lv_at hl 2 rfl) ?_
  obtain ⟨q1, eq1, h⟩ := bd_h h
  refine x_callV (As := [.int x1, .int x2]) CX hM (kdl (kd6_f hk_k).1 rfl) (ly1 (kd6_f hk_k).1 _) rfl lk_X6_58 (c_X1_hasPair l E B ((kd6_f hk_k).1) eq1) ⟨rfl, rfl, by decide, by decide⟩ rfl hl.1 rfl (Nat.le_of_ble_eq_true rfl) dX6_link_6 (fun H locs hM => ?_)
  refine W.eq (g2 := F0 m 9 ls [.int (bz q1.1)]) rfl ?_
  refine lv_if_eq (tgt := 24) hx hb dX6_link_9 (by decide) (fun c2 => ?_) (fun c2 => ?_)
  · replace h := it_h c2 h
    refine lv_ldc (v := (-1000001)) hx hb CX.1.2.2.2.1 (x_hts CX wc_X6_44) dX6_link_24 ?_
    obtain rfl := Option.some.inj h
    exact x_iret CX hr hlk hM rfl dX6_link_26
  · replace h := if_h c2 h
    refine lv_aload_n hx hb dX6_link_12 rfl (lv_at hl 0 rfl) ?_
    refine g6_0 CX hM hk_k wf_X6_10 dX6_link_13 ?_
    refine lv_iload_n hx hb dX6_link_16 rfl (lv_at hl 1 rfl) ?_
    refine lv_iload_n hx hb dX6_link_17 rfl (lv_at hl 2 rfl) ?_
    obtain ⟨q3, eq3, h⟩ := bd_h h
    refine x_callV (As := [.int x1, .int x2]) CX hM (kdl (kd6_f hk_k).1 rfl) (ly1 (kd6_f hk_k).1 _) rfl lk_X6_62 (c_X1_linkOf l E B ((kd6_f hk_k).1) eq3) ⟨rfl, rfl, by decide, by decide⟩ rfl hl.1 rfl (Nat.le_of_ble_eq_true rfl) dX6_link_18 (fun H locs hM => ?_)
    refine W.eq (g2 := F0 m 21 ls [.int q3.1]) rfl ?_
    refine lv_goto (tgt := 26) hx hb dX6_link_21 (by decide) ?_
    obtain rfl := Option.some.inj h
    exact x_iret CX hr hlk hM rfl dX6_link_26
def rm_X6_count : Jvm.Room := { frames := 3, cells := 0, slots := 0, locals := 65 }
set_option maxHeartbeats 4000000 in
set_option maxRecDepth 100000 in
theorem c_X6_count (l : Launch) (E : xE) (B : Nat) {k : Nat} {x1 : Int32} {σ : xM} {q : Int32 × xM} (hk_k : kd k = 6) (h : F_X6_count k x1 σ = some q) : Met l yX6_count (Cond.code yX6_count cX6_count 2 (some .int) :: AL) rm_X6_count (xP E B 160 (layX E B) [.ref (B + k), .int x1] σ) (xQ E B 160 (layX E B) (some (.int q.1)) q.2) 0 0 (wA B 160) := by
  refine x_met (plainFor_of_name (by decide +kernel)) (Nat.le_of_ble_eq_true rfl) rfl ?_
  intro p e s m below meth c ls CX hr hlk hM hl
  have hx := CX.1.1
  have hb := CX.1.2.1
  unfold F_X6_count at h
  refine lv_iload_n hx hb dX6_count_0 rfl (lv_at hl 1 rfl) ?_
  refine lv_iconst (v := 0) hx hb dX6_count_1 (by decide) ?_
  refine lv_bipush (v := 6) hx hb dX6_count_2 (by decide) ?_
  obtain ⟨q1, eq1, h⟩ := bd_h h
  refine x_callS (As := [.int x1, .int 0, .int 6]) CX hM lk_X6_40 (c_X6_within l E B  eq1) ⟨rfl, rfl, by decide, by decide⟩ rfl hl.1 rfl (Nat.le_of_ble_eq_true rfl) dX6_count_4 (fun H locs hM => ?_)
  refine W.eq (g2 := F0 m 7 ls [.int (bz q1.1)]) rfl ?_
  refine lv_if_eq (tgt := 19) hx hb dX6_count_7 (by decide) (fun c2 => ?_) (fun c2 => ?_)
  · replace h := it_h c2 h
    refine lv_iload_n hx hb dX6_count_19 rfl (lv_at hl 1 rfl) ?_
    by_cases c3 : x1 = 7
    · replace h := it_h c3 h
      refine lv_tableIn (off := 44) (tgt := 64) hx hb dX6_count_20 (by rw [c3]; decide) (by rw [c3]; decide) (by rw [c3]; decide) (by decide) ?_
      refine lv_aload_n hx hb dX6_count_64 rfl (lv_at hl 0 rfl) ?_
      refine g6_0 CX hM hk_k wf_X6_10 dX6_count_65 ?_
      refine g1_4 CX hM (kd6_f hk_k).1 wf_X6_45 dX6_count_68 ?_
      obtain rfl := Option.some.inj h
      exact x_iret CX hr hlk hM rfl dX6_count_71
    · replace h := if_h c3 h
      by_cases c4 : x1 = 8
      · replace h := it_h c4 h
        refine lv_tableIn (off := 52) (tgt := 72) hx hb dX6_count_20 (by rw [c4]; decide) (by rw [c4]; decide) (by rw [c4]; decide) (by decide) ?_
        refine lv_aload_n hx hb dX6_count_72 rfl (lv_at hl 0 rfl) ?_
        refine g6_0 CX hM hk_k wf_X6_10 dX6_count_73 ?_
        refine g1_5 CX hM (kd6_f hk_k).1 wf_X6_138 dX6_count_76 ?_
        obtain rfl := Option.some.inj h
        exact x_iret CX hr hlk hM rfl dX6_count_79
      · replace h := if_h c4 h
        by_cases c5 : x1 = 9
        · replace h := it_h c5 h
          refine lv_tableIn (off := 60) (tgt := 80) hx hb dX6_count_20 (by rw [c5]; decide) (by rw [c5]; decide) (by rw [c5]; decide) (by decide) ?_
          refine lv_aload_n hx hb dX6_count_80 rfl (lv_at hl 0 rfl) ?_
          refine g6_0 CX hM hk_k wf_X6_10 dX6_count_81 ?_
          refine g1_3 CX hM (kd6_f hk_k).1 wf_X6_141 dX6_count_84 ?_
          refine g4_2 CX hM (kd1_f (kd6_f hk_k).1).2.2.2 wf_X6_144 dX6_count_87 ?_
          obtain rfl := Option.some.inj h
          exact x_iret CX hr hlk hM rfl dX6_count_90
        · replace h := if_h c5 h
          by_cases c6 : x1 = 10
          · replace h := it_h c6 h
            refine lv_tableIn (off := 71) (tgt := 91) hx hb dX6_count_20 (by rw [c6]; decide) (by rw [c6]; decide) (by rw [c6]; decide) (by decide) ?_
            refine lv_aload_n hx hb dX6_count_91 rfl (lv_at hl 0 rfl) ?_
            refine g6_0 CX hM hk_k wf_X6_10 dX6_count_92 ?_
            obtain ⟨q7, eq7, h⟩ := bd_h h
            refine x_callV (As := []) CX hM (kdl (kd6_f hk_k).1 rfl) (ly1 (kd6_f hk_k).1 _) rfl lk_X6_147 (c_X1_suspectRooms l E B ((kd6_f hk_k).1) eq7) ⟨rfl, rfl, by decide, by decide⟩ rfl hl.1 rfl (Nat.le_of_ble_eq_true rfl) dX6_count_95 (fun H locs hM => ?_)
            refine W.eq (g2 := F0 m 98 ls [.int q7.1]) rfl ?_
            obtain rfl := Option.some.inj h
            exact x_iret CX hr hlk hM rfl dX6_count_98
          · replace h := if_h c6 h
            by_cases c8 : x1 = 11
            · replace h := it_h c8 h
              refine lv_tableIn (off := 79) (tgt := 99) hx hb dX6_count_20 (by rw [c8]; decide) (by rw [c8]; decide) (by rw [c8]; decide) (by decide) ?_
              refine lv_aload_n hx hb dX6_count_99 rfl (lv_at hl 0 rfl) ?_
              refine g6_0 CX hM hk_k wf_X6_10 dX6_count_100 ?_
              obtain ⟨q9, eq9, h⟩ := bd_h h
              refine x_callV (As := []) CX hM (kdl (kd6_f hk_k).1 rfl) (ly1 (kd6_f hk_k).1 _) rfl lk_X6_150 (c_X1_allFines l E B ((kd6_f hk_k).1) eq9) ⟨rfl, rfl, by decide, by decide⟩ rfl hl.1 rfl (Nat.le_of_ble_eq_true rfl) dX6_count_103 (fun H locs hM => ?_)
              refine W.eq (g2 := F0 m 106 ls [.int q9.1]) rfl ?_
              obtain rfl := Option.some.inj h
              exact x_iret CX hr hlk hM rfl dX6_count_106
            · replace h := if_h c8 h
              by_cases c10 : x1 = 12
              · replace h := it_h c10 h
                refine lv_tableIn (off := 87) (tgt := 107) hx hb dX6_count_20 (by rw [c10]; decide) (by rw [c10]; decide) (by rw [c10]; decide) (by decide) ?_
                refine lv_aload_n hx hb dX6_count_107 rfl (lv_at hl 0 rfl) ?_
                refine g6_3 CX hM hk_k wf_X6_29 dX6_count_108 ?_
                refine g5_1 CX hM (kd6_f hk_k).2.2.2.1 wf_X6_153 dX6_count_111 ?_
                obtain rfl := Option.some.inj h
                exact x_iret CX hr hlk hM rfl dX6_count_114
              · replace h := if_h c10 h
                by_cases c11 : x1 = 13
                · replace h := it_h c11 h
                  refine lv_tableIn (off := 95) (tgt := 115) hx hb dX6_count_20 (by rw [c11]; decide) (by rw [c11]; decide) (by rw [c11]; decide) (by decide) ?_
                  refine lv_aload_n hx hb dX6_count_115 rfl (lv_at hl 0 rfl) ?_
                  refine g6_2 CX hM hk_k wf_X6_22 dX6_count_116 ?_
                  refine g2_2 CX hM (kd6_f hk_k).2.2.1 wf_X6_156 dX6_count_119 ?_
                  obtain rfl := Option.some.inj h
                  exact x_iret CX hr hlk hM rfl dX6_count_122
                · replace h := if_h c11 h
                  refine lv_tableOut (tgt := 123) hx hb dX6_count_20 (tsw_out [7, 8, 9, 10, 11, 12, 13] (by decide) (by decide) (List.forall_mem_cons.mpr ⟨c3, (List.forall_mem_cons.mpr ⟨c4, (List.forall_mem_cons.mpr ⟨c5, (List.forall_mem_cons.mpr ⟨c6, (List.forall_mem_cons.mpr ⟨c8, (List.forall_mem_cons.mpr ⟨c10, (List.forall_mem_cons.mpr ⟨c11, (fun _ h => absurd h List.not_mem_nil)⟩)⟩)⟩)⟩)⟩)⟩)⟩)) (by decide) ?_
                  refine lv_ldc (v := (-1000001)) hx hb CX.1.2.2.2.1 (x_hts CX wc_X6_44) dX6_count_123 ?_
                  obtain rfl := Option.some.inj h
                  exact x_iret CX hr hlk hM rfl dX6_count_125
  · replace h := if_h c2 h
    refine lv_aload_n hx hb dX6_count_10 rfl (lv_at hl 0 rfl) ?_
    refine g6_0 CX hM hk_k wf_X6_10 dX6_count_11 ?_
    refine lv_iload_n hx hb dX6_count_14 rfl (lv_at hl 1 rfl) ?_
    obtain ⟨q12, eq12, h⟩ := bd_h h
    refine x_callV (As := [.int x1]) CX hM (kdl (kd6_f hk_k).1 rfl) (ly1 (kd6_f hk_k).1 _) rfl lk_X6_90 (c_X1_number l E B ((kd6_f hk_k).1) eq12) ⟨rfl, rfl, by decide, by decide⟩ rfl hl.1 rfl (Nat.le_of_ble_eq_true rfl) dX6_count_15 (fun H locs hM => ?_)
    refine W.eq (g2 := F0 m 18 ls [.int q12.1]) rfl ?_
    obtain rfl := Option.some.inj h
    exact x_iret CX hr hlk hM rfl dX6_count_18
def rm_X6_appendCharacter : Jvm.Room := { frames := 1, cells := 0, slots := 0, locals := 22 }
set_option maxHeartbeats 4000000 in
set_option maxRecDepth 100000 in
theorem c_X6_appendCharacter (l : Launch) (E : xE) (B : Nat) {k : Nat} {x1 : Int32} {σ : xM} {q : Int32 × xM} (hk_k : kd k = 6) (h : F_X6_appendCharacter k x1 σ = some q) : Met l yX6_appendCharacter (Cond.code yX6_appendCharacter cX6_appendCharacter 2 (some .int) :: AL) rm_X6_appendCharacter (xP E B 160 (layX E B) [.ref (B + k), .int x1] σ) (xQ E B 160 (layX E B) (some (.int q.1)) q.2) 0 0 (wA B 160) := by
  refine x_met (plainFor_of_name (by decide +kernel)) (Nat.le_of_ble_eq_true rfl) rfl ?_
  intro p e s m below meth c ls CX hr hlk hM hl
  have hx := CX.1.1
  have hb := CX.1.2.1
  unfold F_X6_appendCharacter at h
  refine lv_iload_n hx hb dX6_appendCharacter_0 rfl (lv_at hl 1 rfl) ?_
  refine lv_iconst (v := 0) hx hb dX6_appendCharacter_1 (by decide) ?_
  refine lv_sipush (v := 255) hx hb dX6_appendCharacter_2 (by decide) ?_
  obtain ⟨q1, eq1, h⟩ := bd_h h
  refine x_callS (As := [.int x1, .int 0, .int 255]) CX hM lk_X6_40 (c_X6_within l E B  eq1) ⟨rfl, rfl, by decide, by decide⟩ rfl hl.1 rfl (Nat.le_of_ble_eq_true rfl) dX6_appendCharacter_5 (fun H locs hM => ?_)
  refine W.eq (g2 := F0 m 8 ls [.int (bz q1.1)]) rfl ?_
  refine lv_if_ne (tgt := 14) hx hb dX6_appendCharacter_8 (by decide) (fun c2 => ?_) (fun c2 => ?_)
  · replace h := if_h c2 h
    refine lv_aload_n hx hb dX6_appendCharacter_14 rfl (lv_at hl 0 rfl) ?_
    refine g6_3 CX hM hk_k wf_X6_29 dX6_appendCharacter_15 ?_
    refine lv_iload_n hx hb dX6_appendCharacter_18 rfl (lv_at hl 1 rfl) ?_
    obtain ⟨q3, eq3, h⟩ := bd_h h
    refine x_callV (As := [.int x1]) CX hM (kdl (kd6_f hk_k).2.2.2.1 rfl) (ly5 (kd6_f hk_k).2.2.2.1 _) rfl lk_X6_157 (c_X5_append l E B ((kd6_f hk_k).2.2.2.1) eq3) ⟨rfl, rfl, by decide, by decide⟩ rfl hl.1 rfl (Nat.le_of_ble_eq_true rfl) dX6_appendCharacter_19 (fun H locs hM => ?_)
    refine W.eq (g2 := F0 m 22 ls [.int (bz q3.1)]) rfl ?_
    refine lv_if_eq (tgt := 35) hx hb dX6_appendCharacter_22 (by decide) (fun c4 => ?_) (fun c4 => ?_)
    · replace h := it_h c4 h
      refine lv_ldc (v := (-1000003)) hx hb CX.1.2.2.2.1 (x_hts CX wc_X6_49) dX6_appendCharacter_35 ?_
      obtain rfl := Option.some.inj h
      exact x_iret CX hr hlk hM rfl dX6_appendCharacter_37
    · replace h := if_h c4 h
      refine lv_aload_n hx hb dX6_appendCharacter_25 rfl (lv_at hl 0 rfl) ?_
      refine g6_3 CX hM hk_k wf_X6_29 dX6_appendCharacter_26 ?_
      refine g5_1 CX hM (kd6_f hk_k).2.2.2.1 wf_X6_153 dX6_appendCharacter_29 ?_
      refine lv_goto (tgt := 37) hx hb dX6_appendCharacter_32 (by decide) ?_
      obtain rfl := Option.some.inj h
      exact x_iret CX hr hlk hM rfl dX6_appendCharacter_37
  · replace h := it_h c2 h
    refine lv_ldc (v := (-1000001)) hx hb CX.1.2.2.2.1 (x_hts CX wc_X6_44) dX6_appendCharacter_11 ?_
    obtain rfl := Option.some.inj h
    exact x_iret CX hr hlk hM rfl dX6_appendCharacter_13
def rm_X6_clearText : Jvm.Room := { frames := 0, cells := 0, slots := 0, locals := 0 }
set_option maxHeartbeats 4000000 in
set_option maxRecDepth 100000 in
theorem c_X6_clearText (l : Launch) (E : xE) (B : Nat) {k : Nat} {σ : xM} {q : Int32 × xM} (hk_k : kd k = 6) (h : F_X6_clearText k σ = some q) : Met l yX6_clearText (Cond.code yX6_clearText cX6_clearText 2 (some .int) :: AL) rm_X6_clearText (xP E B 160 (layX E B) [.ref (B + k)] σ) (xQ E B 160 (layX E B) (some (.int q.1)) q.2) 0 0 (wA B 160) := by
  refine x_met (plainFor_of_name (by decide +kernel)) (Nat.le_of_ble_eq_true rfl) rfl ?_
  intro p e s m below meth c ls CX hr hlk hM hl
  have hx := CX.1.1
  have hb := CX.1.2.1
  unfold F_X6_clearText at h
  refine lv_aload_n hx hb dX6_clearText_0 rfl (lv_at hl 0 rfl) ?_
  refine g6_3 CX hM hk_k wf_X6_29 dX6_clearText_1 ?_
  refine g5_1 CX hM (kd6_f hk_k).2.2.2.1 wf_X6_153 dX6_clearText_4 ?_
  refine lv_topi (fun x1_1 ex1_1 => ?_)
  replace h := nm_h ex1_1 h
  refine lv_istore_n (lv' := [(1, .int x1_1), (0, .ref (B + k))]) hx hb dX6_clearText_7 rfl hl (by decide) rfl (fun ls hl => ?_)
  refine lv_aload_n hx hb dX6_clearText_8 rfl (lv_at hl 1 rfl) ?_
  refine g6_3 CX hM hk_k wf_X6_29 dX6_clearText_9 ?_
  refine lv_iconst (v := 0) hx hb dX6_clearText_12 (by decide) ?_
  refine p5_1 (y := 0) CX hM (kd6_f hk_k).2.2.2.1 wf_X6_153 dX6_clearText_13 (fun H locs σ2 eσ2 hM => ?_)
  replace h := nm_h eσ2 h
  refine lv_iload_n hx hb dX6_clearText_16 rfl (lv_at hl 0 rfl) ?_
  obtain rfl := Option.some.inj h
  exact x_iret CX hr hlk hM rfl dX6_clearText_17
def rm_X6_load : Jvm.Room := { frames := 6, cells := 0, slots := 0, locals := 135 }
set_option maxHeartbeats 4000000 in
set_option maxRecDepth 100000 in
theorem c_X6_load (l : Launch) (E : xE) (B : Nat) {k : Nat} {σ : xM} {q : Int32 × xM} (hk_k : kd k = 6) (h : F_X6_load k σ = some q) : Met l yX6_load (Cond.code yX6_load cX6_load 2 (some .int) :: AL) rm_X6_load (xP E B 160 (layX E B) [.ref (B + k)] σ) (xQ E B 160 (layX E B) (some (.int q.1)) q.2) 0 0 (wA B 160) := by
  refine x_met (plainFor_of_name (by decide +kernel)) (Nat.le_of_ble_eq_true rfl) rfl ?_
  intro p e s m below meth c ls CX hr hlk hM hl
  have hx := CX.1.1
  have hb := CX.1.2.1
  unfold F_X6_load at h
  refine lv_aload_n hx hb dX6_load_0 rfl (lv_at hl 0 rfl) ?_
  refine g6_3 CX hM hk_k wf_X6_29 dX6_load_1 ?_
  refine lv_aload_n hx hb dX6_load_4 rfl (lv_at hl 0 rfl) ?_
  refine g6_4 CX hM hk_k wf_X6_36 dX6_load_5 ?_
  obtain ⟨q1, eq1, h⟩ := bd_h h
  refine x_callV (As := [.ref (B + (k + 157))]) CX hM (kdl (kd6_f hk_k).2.2.2.1 rfl) (ly5 (kd6_f hk_k).2.2.2.1 _) rfl lk_X6_161 (c_X5_readInto l E B ((kd6_f hk_k).2.2.2.1) ((kd6_f hk_k).2.2.2.2) eq1) ⟨rfl, rfl, by decide, by decide⟩ rfl hl.1 rfl (Nat.le_of_ble_eq_true rfl) dX6_load_8 (fun H locs hM => ?_)
  refine W.eq (g2 := F0 m 11 ls [.int q1.1]) rfl ?_
  refine lv_istore_n (lv' := [(1, .int q1.1), (0, .ref (B + k))]) hx hb dX6_load_11 rfl hl (by decide) rfl (fun ls hl => ?_)
  refine lv_iload_n hx hb dX6_load_12 rfl (lv_at hl 0 rfl) ?_
  refine lv_iconst (v := (-1)) hx hb dX6_load_13 (by decide) ?_
  refine lv_icmp_eq (tgt := 22) hx hb dX6_load_14 (by decide) (fun c2 => ?_) (fun c2 => ?_)
  · replace h := it_h c2 h
    refine lv_aload_n hx hb dX6_load_22 rfl (lv_at hl 1 rfl) ?_
    refine g6_2 CX hM hk_k wf_X6_22 dX6_load_23 ?_
    refine lv_aload_n hx hb dX6_load_26 rfl (lv_at hl 1 rfl) ?_
    refine g6_0 CX hM hk_k wf_X6_10 dX6_load_27 ?_
    obtain ⟨q3, eq3, h⟩ := bd_h h
    refine x_callV (As := [.ref (B + (k + 1))]) CX hM (kdl (kd6_f hk_k).2.2.1 rfl) (ly2 (kd6_f hk_k).2.2.1 _) rfl lk_X6_50 (c_X2_save l E B ((kd6_f hk_k).2.2.1) ((kd6_f hk_k).1) eq3) ⟨rfl, rfl, by decide, by decide⟩ rfl hl.1 rfl (Nat.le_of_ble_eq_true rfl) dX6_load_30 (fun H locs hM => ?_)
    refine W.eq (g2 := F0 m 33 ls []) rfl ?_
    refine lv_aload_n hx hb dX6_load_33 rfl (lv_at hl 1 rfl) ?_
    refine g6_0 CX hM hk_k wf_X6_10 dX6_load_34 ?_
    refine g1_3 CX hM (kd6_f hk_k).1 wf_X6_141 dX6_load_37 ?_
    refine lv_aload_n hx hb dX6_load_40 rfl (lv_at hl 1 rfl) ?_
    refine g6_4 CX hM hk_k wf_X6_36 dX6_load_41 ?_
    obtain ⟨q4, eq4, h⟩ := bd_h h
    refine x_callV (As := [.ref (B + (k + 157))]) CX hM (kdl (kd1_f (kd6_f hk_k).1).2.2.2 rfl) (ly4 (kd1_f (kd6_f hk_k).1).2.2.2 _) rfl lk_X6_165 (c_X4_copyFrom l E B ((kd1_f (kd6_f hk_k).1).2.2.2) ((kd6_f hk_k).2.2.2.2) eq4) ⟨rfl, rfl, by decide, by decide⟩ rfl hl.1 rfl (Nat.le_of_ble_eq_true rfl) dX6_load_44 (fun H locs hM => ?_)
    refine W.eq (g2 := F0 m 47 ls []) rfl ?_
    refine lv_aload_n hx hb dX6_load_47 rfl (lv_at hl 1 rfl) ?_
    refine g6_3 CX hM hk_k wf_X6_29 dX6_load_48 ?_
    refine lv_iconst (v := 0) hx hb dX6_load_51 (by decide) ?_
    refine p5_1 (y := 0) CX hM (kd6_f hk_k).2.2.2.1 wf_X6_153 dX6_load_52 (fun H locs σ5 eσ5 hM => ?_)
    replace h := nm_h eσ5 h
    refine lv_aload_n hx hb dX6_load_55 rfl (lv_at hl 1 rfl) ?_
    refine g6_0 CX hM hk_k wf_X6_10 dX6_load_56 ?_
    refine g1_3 CX hM (kd6_f hk_k).1 wf_X6_141 dX6_load_59 ?_
    refine g4_2 CX hM (kd1_f (kd6_f hk_k).1).2.2.2 wf_X6_144 dX6_load_62 ?_
    obtain rfl := Option.some.inj h
    exact x_iret CX hr hlk hM rfl dX6_load_65
  · replace h := if_h c2 h
    refine lv_bipush (v := (-10)) hx hb dX6_load_17 (by decide) ?_
    refine lv_iload_n hx hb dX6_load_19 rfl (lv_at hl 0 rfl) ?_
    refine lv_isub hx hb dX6_load_20 ?_
    obtain rfl := Option.some.inj h
    exact x_iret CX hr hlk hM rfl dX6_load_21
def rm_X6_outside : Jvm.Room := { frames := 2, cells := 0, slots := 0, locals := 48 }
set_option maxHeartbeats 4000000 in
set_option maxRecDepth 100000 in
theorem c_X6_outside (l : Launch) (E : xE) (B : Nat) {k : Nat} {x1 : Int32} {σ : xM} {q : Int32 × xM} (hk_k : kd k = 6) (h : F_X6_outside k x1 σ = some q) : Met l yX6_outside (Cond.code yX6_outside cX6_outside 2 (some .int) :: AL) rm_X6_outside (xP E B 160 (layX E B) [.ref (B + k), .int x1] σ) (xQ E B 160 (layX E B) (some (.int q.1)) q.2) 0 0 (wA B 160) := by
  refine x_met (plainFor_of_name (by decide +kernel)) (Nat.le_of_ble_eq_true rfl) rfl ?_
  intro p e s m below meth c ls CX hr hlk hM hl
  have hx := CX.1.1
  have hb := CX.1.2.1
  unfold F_X6_outside at h
  refine lv_iload_n hx hb dX6_outside_0 rfl (lv_at hl 1 rfl) ?_
  refine lv_iconst (v := 0) hx hb dX6_outside_1 (by decide) ?_
  refine lv_sipush (v := 20000) hx hb dX6_outside_2 (by decide) ?_
  obtain ⟨q1, eq1, h⟩ := bd_h h
  refine x_callS (As := [.int x1, .int 0, .int 20000]) CX hM lk_X6_40 (c_X6_within l E B  eq1) ⟨rfl, rfl, by decide, by decide⟩ rfl hl.1 rfl (Nat.le_of_ble_eq_true rfl) dX6_outside_5 (fun H locs hM => ?_)
  refine W.eq (g2 := F0 m 8 ls [.int (bz q1.1)]) rfl ?_
  refine lv_if_eq (tgt := 25) hx hb dX6_outside_8 (by decide) (fun c2 => ?_) (fun c2 => ?_)
  · replace h := it_h c2 h
    refine lv_ldc (v := (-1000001)) hx hb CX.1.2.2.2.1 (x_hts CX wc_X6_44) dX6_outside_25 ?_
    obtain rfl := Option.some.inj h
    exact x_iret CX hr hlk hM rfl dX6_outside_27
  · replace h := if_h c2 h
    refine lv_aload_n hx hb dX6_outside_11 rfl (lv_at hl 0 rfl) ?_
    refine g6_0 CX hM hk_k wf_X6_10 dX6_outside_12 ?_
    refine g1_3 CX hM (kd6_f hk_k).1 wf_X6_141 dX6_outside_15 ?_
    refine lv_iload_n hx hb dX6_outside_18 rfl (lv_at hl 1 rfl) ?_
    obtain ⟨q3, eq3, h⟩ := bd_h h
    refine x_callV (As := [.int x1]) CX hM (kdl (kd1_f (kd6_f hk_k).1).2.2.2 rfl) (ly4 (kd1_f (kd6_f hk_k).1).2.2.2 _) rfl lk_X6_169 (c_X4_temperatureAt l E B ((kd1_f (kd6_f hk_k).1).2.2.2) eq3) ⟨rfl, rfl, by decide, by decide⟩ rfl hl.1 rfl (Nat.le_of_ble_eq_true rfl) dX6_outside_19 (fun H locs hM => ?_)
    refine W.eq (g2 := F0 m 22 ls [.int q3.1]) rfl ?_
    refine lv_goto (tgt := 27) hx hb dX6_outside_22 (by decide) ?_
    obtain rfl := Option.some.inj h
    exact x_iret CX hr hlk hM rfl dX6_outside_27
def rm_X6_pass : Jvm.Room := { frames := 7, cells := 0, slots := 0, locals := 154 }
set_option maxHeartbeats 4000000 in
set_option maxRecDepth 100000 in
theorem c_X6_pass (l : Launch) (E : xE) (B : Nat) {k : Nat} {x1 : Int32} {σ : xM} {q : Int32 × xM} (hk_k : kd k = 6) (h : F_X6_pass k x1 σ = some q) : Met l yX6_pass (Cond.code yX6_pass cX6_pass 2 (some .int) :: AL) rm_X6_pass (xP E B 160 (layX E B) [.ref (B + k), .int x1] σ) (xQ E B 160 (layX E B) (some (.int q.1)) q.2) 0 0 (wA B 160) := by
  refine x_met (plainFor_of_name (by decide +kernel)) (Nat.le_of_ble_eq_true rfl) rfl ?_
  intro p e s m below meth c ls CX hr hlk hM hl
  have hx := CX.1.1
  have hb := CX.1.2.1
  unfold F_X6_pass at h
  refine lv_iload_n hx hb dX6_pass_0 rfl (lv_at hl 1 rfl) ?_
  refine lv_iconst (v := 1) hx hb dX6_pass_1 (by decide) ?_
  refine lv_sipush (v := 500) hx hb dX6_pass_2 (by decide) ?_
  obtain ⟨q1, eq1, h⟩ := bd_h h
  refine x_callS (As := [.int x1, .int 1, .int 500]) CX hM lk_X6_40 (c_X6_within l E B  eq1) ⟨rfl, rfl, by decide, by decide⟩ rfl hl.1 rfl (Nat.le_of_ble_eq_true rfl) dX6_pass_5 (fun H locs hM => ?_)
  refine W.eq (g2 := F0 m 8 ls [.int (bz q1.1)]) rfl ?_
  refine lv_if_ne (tgt := 14) hx hb dX6_pass_8 (by decide) (fun c2 => ?_) (fun c2 => ?_)
  · replace h := if_h c2 h
    refine lv_aload_n hx hb dX6_pass_14 rfl (lv_at hl 0 rfl) ?_
    refine g6_0 CX hM hk_k wf_X6_10 dX6_pass_15 ?_
    refine g1_4 CX hM (kd6_f hk_k).1 wf_X6_45 dX6_pass_18 ?_
    refine lv_if_ne (tgt := 27) hx hb dX6_pass_21 (by decide) (fun c3 => ?_) (fun c3 => ?_)
    · replace h := if_h c3 h
      refine lv_iload_n hx hb dX6_pass_27 rfl (lv_at hl 1 rfl) ?_
      refine lv_sipush (v := 20000) hx hb dX6_pass_28 (by decide) ?_
      refine lv_aload_n hx hb dX6_pass_31 rfl (lv_at hl 0 rfl) ?_
      refine g6_0 CX hM hk_k wf_X6_10 dX6_pass_32 ?_
      refine g1_5 CX hM (kd6_f hk_k).1 wf_X6_138 dX6_pass_35 ?_
      refine lv_isub hx hb dX6_pass_38 ?_
      refine lv_icmp_le (tgt := 45) hx hb dX6_pass_39 (by decide) (fun c4 => ?_) (fun c4 => ?_)
      · replace h := it_h c4 h
        refine lv_aload_n hx hb dX6_pass_45 rfl (lv_at hl 0 rfl) ?_
        refine g6_2 CX hM hk_k wf_X6_22 dX6_pass_46 ?_
        refine lv_aload_n hx hb dX6_pass_49 rfl (lv_at hl 0 rfl) ?_
        refine g6_0 CX hM hk_k wf_X6_10 dX6_pass_50 ?_
        obtain ⟨q5, eq5, h⟩ := bd_h h
        refine x_callV (As := [.ref (B + (k + 1))]) CX hM (kdl (kd6_f hk_k).2.2.1 rfl) (ly2 (kd6_f hk_k).2.2.1 _) rfl lk_X6_50 (c_X2_save l E B ((kd6_f hk_k).2.2.1) ((kd6_f hk_k).1) eq5) ⟨rfl, rfl, by decide, by decide⟩ rfl hl.1 rfl (Nat.le_of_ble_eq_true rfl) dX6_pass_53 (fun H locs hM => ?_)
        refine W.eq (g2 := F0 m 56 ls []) rfl ?_
        refine lv_aload_n hx hb dX6_pass_56 rfl (lv_at hl 0 rfl) ?_
        refine g6_0 CX hM hk_k wf_X6_10 dX6_pass_57 ?_
        refine lv_iload_n hx hb dX6_pass_60 rfl (lv_at hl 1 rfl) ?_
        obtain ⟨q6, eq6, h⟩ := bd_h h
        refine x_callV (As := [.int x1]) CX hM (kdl (kd6_f hk_k).1 rfl) (ly1 (kd6_f hk_k).1 _) rfl lk_X6_172 (c_X1_passMinutes l E B ((kd6_f hk_k).1) eq6) ⟨rfl, rfl, by decide, by decide⟩ rfl hl.1 rfl (Nat.le_of_ble_eq_true rfl) dX6_pass_61 (fun H locs hM => ?_)
        refine W.eq (g2 := F0 m 64 ls [.int q6.1]) rfl ?_
        obtain rfl := Option.some.inj h
        exact x_iret CX hr hlk hM rfl dX6_pass_64
      · replace h := if_h c4 h
        refine lv_ldc (v := (-1000003)) hx hb CX.1.2.2.2.1 (x_hts CX wc_X6_49) dX6_pass_42 ?_
        obtain rfl := Option.some.inj h
        exact x_iret CX hr hlk hM rfl dX6_pass_44
    · replace h := it_h c3 h
      refine lv_ldc (v := (-1000002)) hx hb CX.1.2.2.2.1 (x_hts CX wc_X6_69) dX6_pass_24 ?_
      obtain rfl := Option.some.inj h
      exact x_iret CX hr hlk hM rfl dX6_pass_26
  · replace h := it_h c2 h
    refine lv_ldc (v := (-1000001)) hx hb CX.1.2.2.2.1 (x_hts CX wc_X6_44) dX6_pass_11 ?_
    obtain rfl := Option.some.inj h
    exact x_iret CX hr hlk hM rfl dX6_pass_13
def rm_X6_minutesToSuspect : Jvm.Room := { frames := 6, cells := 0, slots := 0, locals := 131 }
set_option maxHeartbeats 4000000 in
set_option maxRecDepth 100000 in
theorem c_X6_minutesToSuspect (l : Launch) (E : xE) (B : Nat) {k : Nat} {x1 : Int32} {σ : xM} {q : Int32 × xM} (hk_k : kd k = 6) (h : F_X6_minutesToSuspect k x1 σ = some q) : Met l yX6_minutesToSuspect (Cond.code yX6_minutesToSuspect cX6_minutesToSuspect 4 (some .int) :: AL) rm_X6_minutesToSuspect (xP E B 160 (layX E B) [.ref (B + k), .int x1] σ) (xQ E B 160 (layX E B) (some (.int q.1)) q.2) 0 0 (wA B 160) := by
  refine x_met (plainFor_of_name (by decide +kernel)) (Nat.le_of_ble_eq_true rfl) rfl ?_
  intro p e s m below meth c ls CX hr hlk hM hl
  have hx := CX.1.1
  have hb := CX.1.2.1
  unfold F_X6_minutesToSuspect at h
  have L29 : ∀ (N : Nat) (u2 : Nat) (v3 : Int32) (σ : xM), kd u2 = 3 → ∀ (H : Heap) (locs : List Loc) (ls : Array Slot), xS E B 160 (layX E B) s σ H locs → lv_has ls 4 [(0, .ref (B + k)), (2, .ref (B + u2)), (3, .int v3)] → F_X6_minutesToSuspect_L29 k N u2 v3 σ = some q → W p l e rm_X6_minutesToSuspect s m ([.ref (B + k), .int x1] : List Value).toArray below meth c H locs 0 0 (MQ below (xQ E B 160 (layX E B) (some (.int q.1)) q.2) ([.ref (B + k), .int x1] : List Value).toArray s 0 0 (wA B 160)) (F0 m 29 ls []) := by
    clear hM hl h
    intro N
    induction N with
    | zero =>
      intro u2 v3 σ hk_u2 H locs ls hM hl h
      cases h
    | succ N ih =>
      intro u2 v3 σ hk_u2 H locs ls hM hl h
      rw [F_X6_minutesToSuspect_L29] at h
      refine lv_iload_n hx hb dX6_minutesToSuspect_29 rfl (lv_at hl 2 rfl) ?_
      refine lv_sipush (v := 1000) hx hb dX6_minutesToSuspect_30 (by decide) ?_
      refine lv_icmp_ge (tgt := 63) hx hb dX6_minutesToSuspect_33 (by decide) (fun c4 => ?_) (fun c4 => ?_)
      · replace h := it_h c4 h
        refine lv_aload_n hx hb dX6_minutesToSuspect_63 rfl (lv_at hl 0 rfl) ?_
        refine g6_1 CX hM hk_k wf_X6_16 dX6_minutesToSuspect_64 ?_
        refine lv_aload_n hx hb dX6_minutesToSuspect_67 rfl (lv_at hl 1 rfl) ?_
        obtain ⟨q5, eq5, h⟩ := bd_h h
        refine x_callV (As := [.ref (B + u2)]) CX hM (kdl (kd6_f hk_k).2.1 rfl) (ly1 (kd6_f hk_k).2.1 _) rfl lk_X6_177 (c_X1_isSuspect l E B ((kd6_f hk_k).2.1) hk_u2 eq5) ⟨rfl, rfl, by decide, by decide⟩ rfl hl.1 rfl (Nat.le_of_ble_eq_true rfl) dX6_minutesToSuspect_68 (fun H locs hM => ?_)
        refine W.eq (g2 := F0 m 71 ls [.int (bz q5.1)]) rfl ?_
        refine lv_if_eq (tgt := 80) hx hb dX6_minutesToSuspect_71 (by decide) (fun c6 => ?_) (fun c6 => ?_)
        · replace h := it_h c6 h
          refine lv_ldc (v := (-1000009)) hx hb CX.1.2.2.2.1 (x_hts CX wc_X6_184) dX6_minutesToSuspect_80 ?_
          obtain rfl := Option.some.inj h
          exact x_iret CX hr hlk hM rfl dX6_minutesToSuspect_82
        · replace h := if_h c6 h
          refine lv_sipush (v := 1000) hx hb dX6_minutesToSuspect_74 (by decide) ?_
          refine lv_goto (tgt := 82) hx hb dX6_minutesToSuspect_77 (by decide) ?_
          obtain rfl := Option.some.inj h
          exact x_iret CX hr hlk hM rfl dX6_minutesToSuspect_82
      · replace h := if_h c4 h
        refine lv_aload_n hx hb dX6_minutesToSuspect_36 rfl (lv_at hl 0 rfl) ?_
        refine g6_1 CX hM hk_k wf_X6_16 dX6_minutesToSuspect_37 ?_
        refine lv_aload_n hx hb dX6_minutesToSuspect_40 rfl (lv_at hl 1 rfl) ?_
        obtain ⟨q7, eq7, h⟩ := bd_h h
        refine x_callV (As := [.ref (B + u2)]) CX hM (kdl (kd6_f hk_k).2.1 rfl) (ly1 (kd6_f hk_k).2.1 _) rfl lk_X6_177 (c_X1_isSuspect l E B ((kd6_f hk_k).2.1) hk_u2 eq7) ⟨rfl, rfl, by decide, by decide⟩ rfl hl.1 rfl (Nat.le_of_ble_eq_true rfl) dX6_minutesToSuspect_41 (fun H locs hM => ?_)
        refine W.eq (g2 := F0 m 44 ls [.int (bz q7.1)]) rfl ?_
        refine lv_if_eq (tgt := 49) hx hb dX6_minutesToSuspect_44 (by decide) (fun c8 => ?_) (fun c8 => ?_)
        · replace h := it_h c8 h
          refine lv_aload_n hx hb dX6_minutesToSuspect_49 rfl (lv_at hl 0 rfl) ?_
          refine g6_1 CX hM hk_k wf_X6_16 dX6_minutesToSuspect_50 ?_
          obtain ⟨q9, eq9, h⟩ := bd_h h
          refine x_callV (As := []) CX hM (kdl (kd6_f hk_k).2.1 rfl) (ly1 (kd6_f hk_k).2.1 _) rfl lk_X6_181 (c_X1_passMinute l E B ((kd6_f hk_k).2.1) eq9) ⟨rfl, rfl, by decide, by decide⟩ rfl hl.1 rfl (Nat.le_of_ble_eq_true rfl) dX6_minutesToSuspect_53 (fun H locs hM => ?_)
          refine W.eq (g2 := F0 m 56 ls [.int q9.1]) rfl ?_
          refine lv_pop hx hb dX6_minutesToSuspect_56 rfl ?_
          refine lv_iinc (v := (v3 + 1)) (lv' := [(3, .int (v3 + 1)), (0, .ref (B + k)), (2, .ref (B + u2))]) hx hb dX6_minutesToSuspect_57 hl (k := 2) rfl rfl (by decide) rfl (fun ls hl => ?_)
          refine lv_goto (tgt := 29) hx hb dX6_minutesToSuspect_60 (by decide) ?_
          exact ih _ _ _ hk_u2 _ _ _ hM (lv_sub hl [1, 2, 0] rfl) h
        · replace h := if_h c8 h
          refine lv_iload_n hx hb dX6_minutesToSuspect_47 rfl (lv_at hl 2 rfl) ?_
          obtain rfl := Option.some.inj h
          exact x_iret CX hr hlk hM rfl dX6_minutesToSuspect_48
  refine lv_aload_n hx hb dX6_minutesToSuspect_0 rfl (lv_at hl 0 rfl) ?_
  refine g6_1 CX hM hk_k wf_X6_16 dX6_minutesToSuspect_1 ?_
  refine lv_aload_n hx hb dX6_minutesToSuspect_4 rfl (lv_at hl 0 rfl) ?_
  refine g6_0 CX hM hk_k wf_X6_10 dX6_minutesToSuspect_5 ?_
  obtain ⟨q1, eq1, h⟩ := bd_h h
  refine x_callV (As := [.ref (B + (k + 1))]) CX hM (kdl (kd6_f hk_k).2.1 rfl) (ly1 (kd6_f hk_k).2.1 _) rfl lk_X6_175 (c_X1_copyFrom l E B ((kd6_f hk_k).2.1) ((kd6_f hk_k).1) eq1) ⟨rfl, rfl, by decide, by decide⟩ rfl hl.1 rfl (Nat.le_of_ble_eq_true rfl) dX6_minutesToSuspect_8 (fun H locs hM => ?_)
  refine W.eq (g2 := F0 m 11 ls []) rfl ?_
  refine lv_aload_n hx hb dX6_minutesToSuspect_11 rfl (lv_at hl 0 rfl) ?_
  refine g6_1 CX hM hk_k wf_X6_16 dX6_minutesToSuspect_12 ?_
  refine lv_iload_n hx hb dX6_minutesToSuspect_15 rfl (lv_at hl 1 rfl) ?_
  obtain ⟨q2, eq2, h⟩ := bd_h h
  refine x_callV (As := [.int x1]) CX hM (kdl (kd6_f hk_k).2.1 rfl) (ly1 (kd6_f hk_k).2.1 _) rfl lk_X6_74 (c_X1_roomAt l E B ((kd6_f hk_k).2.1) eq2) ⟨rfl, rfl, by decide, by decide⟩ rfl hl.1 rfl (Nat.le_of_ble_eq_true rfl) dX6_minutesToSuspect_16 (fun H locs hM => ?_)
  rcases hq2 : q2.1 with _ | r3
  · rw [hq2] at h
    replace h := oc_n h
    refine W.eq (g2 := F0 m 19 ls [.null]) rfl ?_
    refine lv_astore_nN (lv' := [(2, .null), (0, .ref (B + k)), (1, .int x1)]) hx hb dX6_minutesToSuspect_19 rfl hl (by decide) rfl (fun ls hl => ?_)
    refine lv_aload_nN hx hb dX6_minutesToSuspect_20 rfl (lv_at hl 0 rfl) ?_
    refine lv_ifnonnullN hx hb dX6_minutesToSuspect_21 ?_
    refine lv_ldc (v := (-1000001)) hx hb CX.1.2.2.2.1 (x_hts CX wc_X6_44) dX6_minutesToSuspect_24 ?_
    obtain rfl := Option.some.inj h
    exact x_iret CX hr hlk hM rfl dX6_minutesToSuspect_26
  · rw [hq2] at h
    replace h := oc_s h
    obtain ⟨hk_r3, h⟩ := ck_h h
    refine W.eq (g2 := F0 m 19 ls [.ref (B + r3)]) rfl ?_
    refine lv_astore_n (lv' := [(2, .ref (B + r3)), (0, .ref (B + k)), (1, .int x1)]) hx hb dX6_minutesToSuspect_19 rfl hl (by decide) rfl (fun ls hl => ?_)
    refine lv_aload_n hx hb dX6_minutesToSuspect_20 rfl (lv_at hl 0 rfl) ?_
    refine lv_ifnonnull (tgt := 27) hx hb dX6_minutesToSuspect_21 (by decide) ?_
    refine lv_iconst (v := 0) hx hb dX6_minutesToSuspect_27 (by decide) ?_
    refine lv_istore_n (lv' := [(3, .int 0), (2, .ref (B + r3)), (0, .ref (B + k)), (1, .int x1)]) hx hb dX6_minutesToSuspect_28 rfl hl (by decide) rfl (fun ls hl => ?_)
    exact L29 _ _ _ _ hk_r3 _ _ _ hM (lv_sub hl [2, 1, 0] rfl) h
def rm_X6_heatIn : Jvm.Room := { frames := 7, cells := 0, slots := 0, locals := 154 }
set_option maxHeartbeats 4000000 in
set_option maxRecDepth 100000 in
theorem c_X6_heatIn (l : Launch) (E : xE) (B : Nat) {k : Nat} {x1 : Int32} {σ : xM} {q : Int32 × xM} (hk_k : kd k = 6) (h : F_X6_heatIn k x1 σ = some q) : Met l yX6_heatIn (Cond.code yX6_heatIn cX6_heatIn 2 (some .int) :: AL) rm_X6_heatIn (xP E B 160 (layX E B) [.ref (B + k), .int x1] σ) (xQ E B 160 (layX E B) (some (.int q.1)) q.2) 0 0 (wA B 160) := by
  refine x_met (plainFor_of_name (by decide +kernel)) (Nat.le_of_ble_eq_true rfl) rfl ?_
  intro p e s m below meth c ls CX hr hlk hM hl
  have hx := CX.1.1
  have hb := CX.1.2.1
  unfold F_X6_heatIn at h
  refine lv_iload_n hx hb dX6_heatIn_0 rfl (lv_at hl 1 rfl) ?_
  refine lv_iconst (v := 1) hx hb dX6_heatIn_1 (by decide) ?_
  refine lv_sipush (v := 1000) hx hb dX6_heatIn_2 (by decide) ?_
  obtain ⟨q1, eq1, h⟩ := bd_h h
  refine x_callS (As := [.int x1, .int 1, .int 1000]) CX hM lk_X6_40 (c_X6_within l E B  eq1) ⟨rfl, rfl, by decide, by decide⟩ rfl hl.1 rfl (Nat.le_of_ble_eq_true rfl) dX6_heatIn_5 (fun H locs hM => ?_)
  refine W.eq (g2 := F0 m 8 ls [.int (bz q1.1)]) rfl ?_
  refine lv_if_ne (tgt := 14) hx hb dX6_heatIn_8 (by decide) (fun c2 => ?_) (fun c2 => ?_)
  · replace h := if_h c2 h
    refine lv_aload_n hx hb dX6_heatIn_14 rfl (lv_at hl 0 rfl) ?_
    refine g6_1 CX hM hk_k wf_X6_16 dX6_heatIn_15 ?_
    refine lv_aload_n hx hb dX6_heatIn_18 rfl (lv_at hl 0 rfl) ?_
    refine g6_0 CX hM hk_k wf_X6_10 dX6_heatIn_19 ?_
    obtain ⟨q3, eq3, h⟩ := bd_h h
    refine x_callV (As := [.ref (B + (k + 1))]) CX hM (kdl (kd6_f hk_k).2.1 rfl) (ly1 (kd6_f hk_k).2.1 _) rfl lk_X6_175 (c_X1_copyFrom l E B ((kd6_f hk_k).2.1) ((kd6_f hk_k).1) eq3) ⟨rfl, rfl, by decide, by decide⟩ rfl hl.1 rfl (Nat.le_of_ble_eq_true rfl) dX6_heatIn_22 (fun H locs hM => ?_)
    refine W.eq (g2 := F0 m 25 ls []) rfl ?_
    refine lv_aload_n hx hb dX6_heatIn_25 rfl (lv_at hl 0 rfl) ?_
    refine g6_1 CX hM hk_k wf_X6_16 dX6_heatIn_26 ?_
    refine lv_iload_n hx hb dX6_heatIn_29 rfl (lv_at hl 1 rfl) ?_
    obtain ⟨q4, eq4, h⟩ := bd_h h
    refine x_callV (As := [.int x1]) CX hM (kdl (kd6_f hk_k).2.1 rfl) (ly1 (kd6_f hk_k).2.1 _) rfl lk_X6_172 (c_X1_passMinutes l E B ((kd6_f hk_k).2.1) eq4) ⟨rfl, rfl, by decide, by decide⟩ rfl hl.1 rfl (Nat.le_of_ble_eq_true rfl) dX6_heatIn_30 (fun H locs hM => ?_)
    refine W.eq (g2 := F0 m 33 ls [.int q4.1]) rfl ?_
    refine lv_pop hx hb dX6_heatIn_33 rfl ?_
    refine lv_aload_n hx hb dX6_heatIn_34 rfl (lv_at hl 0 rfl) ?_
    refine g6_1 CX hM hk_k wf_X6_16 dX6_heatIn_35 ?_
    obtain ⟨q5, eq5, h⟩ := bd_h h
    refine x_callV (As := []) CX hM (kdl (kd6_f hk_k).2.1 rfl) (ly1 (kd6_f hk_k).2.1 _) rfl lk_X6_185 (c_X1_heatFromHeaters l E B ((kd6_f hk_k).2.1) eq5) ⟨rfl, rfl, by decide, by decide⟩ rfl hl.1 rfl (Nat.le_of_ble_eq_true rfl) dX6_heatIn_38 (fun H locs hM => ?_)
    refine W.eq (g2 := F0 m 41 ls [.int q5.1]) rfl ?_
    refine lv_aload_n hx hb dX6_heatIn_41 rfl (lv_at hl 0 rfl) ?_
    refine g6_0 CX hM hk_k wf_X6_10 dX6_heatIn_42 ?_
    obtain ⟨q6, eq6, h⟩ := bd_h h
    refine x_callV (As := []) CX hM (kdl (kd6_f hk_k).1 rfl) (ly1 (kd6_f hk_k).1 _) rfl lk_X6_185 (c_X1_heatFromHeaters l E B ((kd6_f hk_k).1) eq6) ⟨rfl, rfl, by decide, by decide⟩ rfl hl.1 rfl (Nat.le_of_ble_eq_true rfl) dX6_heatIn_45 (fun H locs hM => ?_)
    refine W.eq (g2 := F0 m 48 ls [.int q6.1, .int q5.1]) rfl ?_
    refine lv_isub hx hb dX6_heatIn_48 ?_
    obtain rfl := Option.some.inj h
    exact x_iret CX hr hlk hM rfl dX6_heatIn_49
  · replace h := it_h c2 h
    refine lv_ldc (v := (-1000001)) hx hb CX.1.2.2.2.1 (x_hts CX wc_X6_44) dX6_heatIn_11 ?_
    obtain rfl := Option.some.inj h
    exact x_iret CX hr hlk hM rfl dX6_heatIn_13
def rm_X6_forecastWithBand : Jvm.Room := { frames := 3, cells := 0, slots := 0, locals := 71 }
set_option maxHeartbeats 4000000 in
set_option maxRecDepth 100000 in
theorem c_X6_forecastWithBand (l : Launch) (E : xE) (B : Nat) {k : Nat} {x1 : Int32} {x2 : Int32} {σ : xM} {q : Option Nat × xM} (hk_k : kd k = 6) (h : F_X6_forecastWithBand k x1 x2 σ = some q) : Met l yX6_forecastWithBand (Cond.code yX6_forecastWithBand cX6_forecastWithBand 4 (some (.object "ThermostatColony$Room")) :: AL) rm_X6_forecastWithBand (xP E B 160 (layX E B) [.ref (B + k), .int x1, .int x2] σ) (xQ E B 160 (layX E B) (some (va_rf (q.1.map (fun k => B + k)))) q.2) 0 0 (wA B 160) := by
  refine x_met (plainFor_of_name (by decide +kernel)) (Nat.le_of_ble_eq_true rfl) rfl ?_
  intro p e s m below meth c ls CX hr hlk hM hl
  have hx := CX.1.1
  have hb := CX.1.2.1
  unfold F_X6_forecastWithBand at h
  refine lv_aload_n hx hb dX6_forecastWithBand_0 rfl (lv_at hl 0 rfl) ?_
  refine g6_1 CX hM hk_k wf_X6_16 dX6_forecastWithBand_1 ?_
  refine lv_aload_n hx hb dX6_forecastWithBand_4 rfl (lv_at hl 0 rfl) ?_
  refine g6_0 CX hM hk_k wf_X6_10 dX6_forecastWithBand_5 ?_
  obtain ⟨q1, eq1, h⟩ := bd_h h
  refine x_callV (As := [.ref (B + (k + 1))]) CX hM (kdl (kd6_f hk_k).2.1 rfl) (ly1 (kd6_f hk_k).2.1 _) rfl lk_X6_175 (c_X1_copyFrom l E B ((kd6_f hk_k).2.1) ((kd6_f hk_k).1) eq1) ⟨rfl, rfl, by decide, by decide⟩ rfl hl.1 rfl (Nat.le_of_ble_eq_true rfl) dX6_forecastWithBand_8 (fun H locs hM => ?_)
  refine W.eq (g2 := F0 m 11 ls []) rfl ?_
  refine lv_aload_n hx hb dX6_forecastWithBand_11 rfl (lv_at hl 0 rfl) ?_
  refine g6_1 CX hM hk_k wf_X6_16 dX6_forecastWithBand_12 ?_
  refine lv_iload_n hx hb dX6_forecastWithBand_15 rfl (lv_at hl 1 rfl) ?_
  obtain ⟨q2, eq2, h⟩ := bd_h h
  refine x_callV (As := [.int x1]) CX hM (kdl (kd6_f hk_k).2.1 rfl) (ly1 (kd6_f hk_k).2.1 _) rfl lk_X6_74 (c_X1_roomAt l E B ((kd6_f hk_k).2.1) eq2) ⟨rfl, rfl, by decide, by decide⟩ rfl hl.1 rfl (Nat.le_of_ble_eq_true rfl) dX6_forecastWithBand_16 (fun H locs hM => ?_)
  rcases hq2 : q2.1 with _ | r3
  · rw [hq2] at h
    replace h := oc_n h
    refine W.eq (g2 := F0 m 19 ls [.null]) rfl ?_
    refine lv_astore_nN (lv' := [(3, .null), (0, .ref (B + k)), (1, .int x1), (2, .int x2)]) hx hb dX6_forecastWithBand_19 rfl hl (by decide) rfl (fun ls hl => ?_)
    refine lv_aload_nN hx hb dX6_forecastWithBand_20 rfl (lv_at hl 0 rfl) ?_
    refine lv_ifnullN (tgt := 29) hx hb dX6_forecastWithBand_21 (by decide) ?_
    refine lv_aload_nN hx hb dX6_forecastWithBand_29 rfl (lv_at hl 0 rfl) ?_
    obtain rfl := Option.some.inj h
    exact x_aret CX hr hlk hM (Or.inl rfl) rfl dX6_forecastWithBand_30
  · rw [hq2] at h
    replace h := oc_s h
    obtain ⟨hk_r3, h⟩ := ck_h h
    refine W.eq (g2 := F0 m 19 ls [.ref (B + r3)]) rfl ?_
    refine lv_astore_n (lv' := [(3, .ref (B + r3)), (0, .ref (B + k)), (1, .int x1), (2, .int x2)]) hx hb dX6_forecastWithBand_19 rfl hl (by decide) rfl (fun ls hl => ?_)
    refine lv_aload_n hx hb dX6_forecastWithBand_20 rfl (lv_at hl 0 rfl) ?_
    refine lv_ifnull hx hb dX6_forecastWithBand_21 ?_
    refine lv_aload_n hx hb dX6_forecastWithBand_24 rfl (lv_at hl 0 rfl) ?_
    refine lv_iload_n hx hb dX6_forecastWithBand_25 rfl (lv_at hl 3 rfl) ?_
    refine p3_6 (y := x2) CX hM hk_r3 wf_X6_84 dX6_forecastWithBand_26 (fun H locs σ4 eσ4 hM => ?_)
    replace h := nm_h eσ4 h
    refine lv_aload_n hx hb dX6_forecastWithBand_29 rfl (lv_at hl 0 rfl) ?_
    obtain rfl := Option.some.inj h
    exact x_aret CX hr hlk hM (Or.inr ⟨_, rfl⟩) rfl dX6_forecastWithBand_30
def rm_X6_finesWith : Jvm.Room := { frames := 7, cells := 0, slots := 0, locals := 154 }
set_option maxHeartbeats 4000000 in
set_option maxRecDepth 100000 in
theorem c_X6_finesWith (l : Launch) (E : xE) (B : Nat) {k : Nat} {x1 : Int32} {x2 : Int32} {x3 : Int32} {σ : xM} {q : Int32 × xM} (hk_k : kd k = 6) (h : F_X6_finesWith k x1 x2 x3 σ = some q) : Met l yX6_finesWith (Cond.code yX6_finesWith cX6_finesWith 6 (some .int) :: AL) rm_X6_finesWith (xP E B 160 (layX E B) [.ref (B + k), .int x1, .int x2, .int x3] σ) (xQ E B 160 (layX E B) (some (.int q.1)) q.2) 0 0 (wA B 160) := by
  refine x_met (plainFor_of_name (by decide +kernel)) (Nat.le_of_ble_eq_true rfl) rfl ?_
  intro p e s m below meth c ls CX hr hlk hM hl
  have hx := CX.1.1
  have hb := CX.1.2.1
  unfold F_X6_finesWith at h
  refine lv_aload_n hx hb dX6_finesWith_0 rfl (lv_at hl 0 rfl) ?_
  refine lv_iload_n hx hb dX6_finesWith_1 rfl (lv_at hl 1 rfl) ?_
  refine lv_iload_n hx hb dX6_finesWith_2 rfl (lv_at hl 2 rfl) ?_
  obtain ⟨q1, eq1, h⟩ := bd_h h
  refine x_callV (As := [.int x1, .int x2]) CX hM (kdl hk_k rfl) (ly6 hk_k _) rfl lk_X6_188 (c_X6_forecastWithBand l E B hk_k eq1) ⟨rfl, rfl, by decide, by decide⟩ rfl hl.1 rfl (Nat.le_of_ble_eq_true rfl) dX6_finesWith_3 (fun H locs hM => ?_)
  rcases hq1 : q1.1 with _ | r2
  · rw [hq1] at h
    replace h := oc_n h
    refine W.eq (g2 := F0 m 6 ls [.null]) rfl ?_
    refine lv_astoreN (lv' := [(4, .null), (0, .ref (B + k)), (1, .int x1), (2, .int x2), (3, .int x3)]) hx hb dX6_finesWith_6 hl (by decide) rfl (fun ls hl => ?_)
    refine lv_aloadN hx hb dX6_finesWith_8 (lv_at hl 0 rfl) ?_
    refine lv_ifnullN (tgt := 36) hx hb dX6_finesWith_10 (by decide) ?_
    refine lv_ldc (v := (-1000001)) hx hb CX.1.2.2.2.1 (x_hts CX wc_X6_44) dX6_finesWith_36 ?_
    obtain rfl := Option.some.inj h
    exact x_iret CX hr hlk hM rfl dX6_finesWith_38
  · rw [hq1] at h
    replace h := oc_s h
    obtain ⟨hk_r2, h⟩ := ck_h h
    refine W.eq (g2 := F0 m 6 ls [.ref (B + r2)]) rfl ?_
    refine lv_astore (lv' := [(4, .ref (B + r2)), (0, .ref (B + k)), (1, .int x1), (2, .int x2), (3, .int x3)]) hx hb dX6_finesWith_6 hl (by decide) rfl (fun ls hl => ?_)
    refine lv_aload hx hb dX6_finesWith_8 (lv_at hl 0 rfl) ?_
    refine lv_ifnull hx hb dX6_finesWith_10 ?_
    refine lv_iload_n hx hb dX6_finesWith_13 rfl (lv_at hl 3 rfl) ?_
    refine lv_bipush (v := 100) hx hb dX6_finesWith_14 (by decide) ?_
    refine lv_sipush (v := 5000) hx hb dX6_finesWith_16 (by decide) ?_
    obtain ⟨q3, eq3, h⟩ := bd_h h
    refine x_callS (As := [.int x2, .int 100, .int 5000]) CX hM lk_X6_40 (c_X6_within l E B  eq3) ⟨rfl, rfl, by decide, by decide⟩ rfl hl.1 rfl (Nat.le_of_ble_eq_true rfl) dX6_finesWith_19 (fun H locs hM => ?_)
    refine W.eq (g2 := F0 m 22 ls [.int (bz q3.1)]) rfl ?_
    refine lv_if_eq (tgt := 36) hx hb dX6_finesWith_22 (by decide) (fun c4 => ?_) (fun c4 => ?_)
    · replace h := it_h c4 h
      refine lv_ldc (v := (-1000001)) hx hb CX.1.2.2.2.1 (x_hts CX wc_X6_44) dX6_finesWith_36 ?_
      obtain rfl := Option.some.inj h
      exact x_iret CX hr hlk hM rfl dX6_finesWith_38
    · replace h := if_h c4 h
      refine lv_iload_n hx hb dX6_finesWith_25 rfl (lv_at hl 4 rfl) ?_
      refine lv_iconst (v := 1) hx hb dX6_finesWith_26 (by decide) ?_
      refine lv_sipush (v := 1000) hx hb dX6_finesWith_27 (by decide) ?_
      obtain ⟨q5, eq5, h⟩ := bd_h h
      refine x_callS (As := [.int x3, .int 1, .int 1000]) CX hM lk_X6_40 (c_X6_within l E B  eq5) ⟨rfl, rfl, by decide, by decide⟩ rfl hl.1 rfl (Nat.le_of_ble_eq_true rfl) dX6_finesWith_30 (fun H locs hM => ?_)
      refine W.eq (g2 := F0 m 33 ls [.int (bz q5.1)]) rfl ?_
      refine lv_if_ne (tgt := 39) hx hb dX6_finesWith_33 (by decide) (fun c6 => ?_) (fun c6 => ?_)
      · replace h := if_h c6 h
        refine lv_aload hx hb dX6_finesWith_39 (lv_at hl 0 rfl) ?_
        refine g3_15 CX hM hk_r2 wf_X6_192 dX6_finesWith_41 ?_
        refine lv_topi (fun x5_7 ex5_7 => ?_)
        replace h := nm_h ex5_7 h
        refine lv_istore (lv' := [(5, .int x5_7), (4, .ref (B + r2)), (0, .ref (B + k)), (1, .int x1), (2, .int x2), (3, .int x3)]) hx hb dX6_finesWith_44 hl (by decide) rfl (fun ls hl => ?_)
        refine lv_aload_n hx hb dX6_finesWith_46 rfl (lv_at hl 2 rfl) ?_
        refine g6_1 CX hM hk_k wf_X6_16 dX6_finesWith_47 ?_
        refine lv_iload_n hx hb dX6_finesWith_50 rfl (lv_at hl 5 rfl) ?_
        obtain ⟨q8, eq8, h⟩ := bd_h h
        refine x_callV (As := [.int x3]) CX hM (kdl (kd6_f hk_k).2.1 rfl) (ly1 (kd6_f hk_k).2.1 _) rfl lk_X6_172 (c_X1_passMinutes l E B ((kd6_f hk_k).2.1) eq8) ⟨rfl, rfl, by decide, by decide⟩ rfl hl.1 rfl (Nat.le_of_ble_eq_true rfl) dX6_finesWith_51 (fun H locs hM => ?_)
        refine W.eq (g2 := F0 m 54 ls [.int q8.1]) rfl ?_
        refine lv_pop hx hb dX6_finesWith_54 rfl ?_
        refine lv_aload hx hb dX6_finesWith_55 (lv_at hl 1 rfl) ?_
        refine g3_15 CX hM hk_r2 wf_X6_192 dX6_finesWith_57 ?_
        refine lv_iload hx hb dX6_finesWith_60 (lv_at hl 0 rfl) ?_
        refine lv_isub hx hb dX6_finesWith_62 ?_
        obtain rfl := Option.some.inj h
        exact x_iret CX hr hlk hM rfl dX6_finesWith_63
      · replace h := it_h c6 h
        refine lv_ldc (v := (-1000001)) hx hb CX.1.2.2.2.1 (x_hts CX wc_X6_44) dX6_finesWith_36 ?_
        obtain rfl := Option.some.inj h
        exact x_iret CX hr hlk hM rfl dX6_finesWith_38
