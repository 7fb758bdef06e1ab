def rm_X7_appendCharacter : Jvm.Room := { frames := 1, cells := 0, slots := 0, locals := 22 }
set_option maxHeartbeats 4000000 in
set_option maxRecDepth 100000 in
theorem c_X7_appendCharacter (l : Launch) (E : xE) (B : Nat) {k : Nat} {x1 : Int32} {σ : xM} {q : Int32 × xM} (hk_k : kdY k = 7) (h : F_X7_appendCharacter k x1 σ = some q) : Met l yX7_appendCharacter (Cond.code yX7_appendCharacter cX7_appendCharacter 2 (some .int) :: AL) rm_X7_appendCharacter (xP E B 7 (layY E B) [.ref (B + k), .int x1] σ) (xQ E B 7 (layY E B) (some (.int q.1)) q.2) 0 0 (wA B 7) := by
  refine x_met (plainFor_of_name (by decide +kernel)) (Nat.le_of_ble_eq_true rfl) rfl ?_
  intro p e s m below meth c ls CX hr hlk hM hl
  have hx := CX.1.1
  have hb := CX.1.2.1
  unfold F_X7_appendCharacter at h
  refine lv_iload_n hx hb dX7_appendCharacter_0 rfl (lv_at hl 1 rfl) ?_
  refine lv_iconst (v := 0) hx hb dX7_appendCharacter_1 (by decide) ?_
  refine lv_sipush (v := 255) hx hb dX7_appendCharacter_2 (by decide) ?_
  obtain ⟨q1, eq1, h⟩ := bd_h h
  refine x_callS (As := [.int x1, .int 0, .int 255]) CX hM lk_X7_35 (c_X7_in l E B  eq1) ⟨rfl, rfl, by decide, by decide⟩ rfl hl.1 rfl (Nat.le_of_ble_eq_true rfl) dX7_appendCharacter_5 (fun H locs hM => ?_)
  refine W.eq (g2 := F0 m 8 ls [.int (bz q1.1)]) rfl ?_
  refine lv_if_ne (tgt := 14) hx hb dX7_appendCharacter_8 (by decide) (fun c2 => ?_) (fun c2 => ?_)
  · replace h := if_h c2 h
    refine lv_aload_n hx hb dX7_appendCharacter_14 rfl (lv_at hl 0 rfl) ?_
    refine g7_4 CX hM hk_k wf_X7_90 dX7_appendCharacter_15 ?_
    refine lv_bipush (v := 100) hx hb dX7_appendCharacter_18 (by decide) ?_
    refine lv_icmp_ne (tgt := 26) hx hb dX7_appendCharacter_20 (by decide) (fun c3 => ?_) (fun c3 => ?_)
    · replace h := if_h c3 h
      refine lv_aload_n hx hb dX7_appendCharacter_26 rfl (lv_at hl 0 rfl) ?_
      refine g7_3 CX hM hk_k wf_X7_16 dX7_appendCharacter_27 ?_
      refine lv_aload_n hx hb dX7_appendCharacter_30 rfl (lv_at hl 0 rfl) ?_
      refine g7_4 CX hM hk_k wf_X7_90 dX7_appendCharacter_31 ?_
      refine lv_iload_n hx hb dX7_appendCharacter_34 rfl (lv_at hl 1 rfl) ?_
      refine lv_i2b hx hb dX7_appendCharacter_35 rfl ?_
      obtain ⟨g4, h⟩ := ck_h h
      refine x_bast CX hM (kdYl (kd7_f hk_k).2.2.1 rfl) (fun f => ly22 (kd7_f hk_k).2.2.1 f) g4 dX7_appendCharacter_36 (fun H locs σ5 eσ5 hM => ?_)
      replace h := nm_h eσ5 h
      refine lv_aload_n hx hb dX7_appendCharacter_37 rfl (lv_at hl 0 rfl) ?_
      refine lv_dup hx hb dX7_appendCharacter_38 rfl ?_
      refine g7_4 CX hM hk_k wf_X7_90 dX7_appendCharacter_39 ?_
      refine lv_iconst (v := 1) hx hb dX7_appendCharacter_42 (by decide) ?_
      refine lv_iadd hx hb dX7_appendCharacter_43 ?_
      refine p7_4 (y := ((σ5 k 4) + 1)) CX hM hk_k wf_X7_90 dX7_appendCharacter_44 (fun H locs σ6 eσ6 hM => ?_)
      replace h := nm_h eσ6 h
      refine lv_aload_n hx hb dX7_appendCharacter_47 rfl (lv_at hl 0 rfl) ?_
      refine g7_4 CX hM hk_k wf_X7_90 dX7_appendCharacter_48 ?_
      obtain rfl := Option.some.inj h
      exact x_iret CX hr hlk hM rfl dX7_appendCharacter_51
    · replace h := it_h c3 h
      refine lv_ldc (v := (-1000003)) hx hb CX.1.2.2.2.1 (x_hts CX wc_X7_47) dX7_appendCharacter_23 ?_
      obtain rfl := Option.some.inj h
      exact x_iret CX hr hlk hM rfl dX7_appendCharacter_25
  · replace h := it_h c2 h
    refine lv_ldc (v := (-1000001)) hx hb CX.1.2.2.2.1 (x_hts CX wc_X7_46) dX7_appendCharacter_11 ?_
    obtain rfl := Option.some.inj h
    exact x_iret CX hr hlk hM rfl dX7_appendCharacter_13
def rm_X7_clearText : Jvm.Room := { frames := 0, cells := 0, slots := 0, locals := 0 }
set_option maxHeartbeats 4000000 in
set_option maxRecDepth 100000 in
theorem c_X7_clearText (l : Launch) (E : xE) (B : Nat) {k : Nat} {σ : xM} {q : Int32 × xM} (hk_k : kdY k = 7) (h : F_X7_clearText k σ = some q) : Met l yX7_clearText (Cond.code yX7_clearText cX7_clearText 2 (some .int) :: AL) rm_X7_clearText (xP E B 7 (layY E B) [.ref (B + k)] σ) (xQ E B 7 (layY E B) (some (.int q.1)) q.2) 0 0 (wA B 7) := by
  refine x_met (plainFor_of_name (by decide +kernel)) (Nat.le_of_ble_eq_true rfl) rfl ?_
  intro p e s m below meth c ls CX hr hlk hM hl
  have hx := CX.1.1
  have hb := CX.1.2.1
  unfold F_X7_clearText at h
  refine lv_aload_n hx hb dX7_clearText_0 rfl (lv_at hl 0 rfl) ?_
  refine g7_4 CX hM hk_k wf_X7_90 dX7_clearText_1 ?_
  refine lv_topi (fun x1_1 ex1_1 => ?_)
  replace h := nm_h ex1_1 h
  refine lv_istore_n (lv' := [(1, .int x1_1), (0, .ref (B + k))]) hx hb dX7_clearText_4 rfl hl (by decide) rfl (fun ls hl => ?_)
  refine lv_aload_n hx hb dX7_clearText_5 rfl (lv_at hl 1 rfl) ?_
  refine lv_iconst (v := 0) hx hb dX7_clearText_6 (by decide) ?_
  refine p7_4 (y := 0) CX hM hk_k wf_X7_90 dX7_clearText_7 (fun H locs σ2 eσ2 hM => ?_)
  replace h := nm_h eσ2 h
  refine lv_iload_n hx hb dX7_clearText_10 rfl (lv_at hl 0 rfl) ?_
  obtain rfl := Option.some.inj h
  exact x_iret CX hr hlk hM rfl dX7_clearText_11
def rm_X7_here : Jvm.Room := { frames := 0, cells := 0, slots := 0, locals := 0 }
set_option maxHeartbeats 4000000 in
set_option maxRecDepth 100000 in
theorem c_X7_here (l : Launch) (E : xE) (B : Nat) {k : Nat} {σ : xM} {q : Int32 × xM} (hk_k : kdY k = 7) (h : F_X7_here k σ = some q) : Met l yX7_here (Cond.code yX7_here cX7_here 1 (some .int) :: AL) rm_X7_here (xP E B 7 (layY E B) [.ref (B + k)] σ) (xQ E B 7 (layY E B) (some (.int q.1)) q.2) 0 0 (wA B 7) := by
  refine x_met (plainFor_of_name (by decide +kernel)) (Nat.le_of_ble_eq_true rfl) rfl ?_
  intro p e s m below meth c ls CX hr hlk hM hl
  have hx := CX.1.1
  have hb := CX.1.2.1
  unfold F_X7_here at h
  have J38 : ∀ (σ : xM), ∀ (H : Heap) (locs : List Loc) (ls : Array Slot), xS E B 7 (layY E B) s σ H locs → lv_has ls 1 [(0, .ref (B + k))] → F_X7_here_J38 k  σ = some q → W p l e rm_X7_here s m ([.ref (B + k)] : List Value).toArray below meth c H locs 0 0 (MQ below (xQ E B 7 (layY E B) (some (.int q.1)) q.2) ([.ref (B + k)] : List Value).toArray s 0 0 (wA B 7)) (F0 m 38 ls []) := by
    clear hM hl h
    intro  σ  H locs ls hM hl h
    unfold F_X7_here_J38 at h
    refine lv_aload_n hx hb dX7_here_38 rfl (lv_at hl 0 rfl) ?_
    refine g7_8 CX hM hk_k wf_X7_93 dX7_here_39 ?_
    refine lv_aload_n hx hb dX7_here_42 rfl (lv_at hl 0 rfl) ?_
    refine g7_4 CX hM hk_k wf_X7_90 dX7_here_43 ?_
    refine lv_icmp_ge (tgt := 65) hx hb dX7_here_46 (by decide) (fun c2 => ?_) (fun c2 => ?_)
    · replace h := it_h c2 h
      refine lv_iconst (v := (-1)) hx hb dX7_here_65 (by decide) ?_
      obtain rfl := Option.some.inj h
      exact x_iret CX hr hlk hM rfl dX7_here_66
    · replace h := if_h c2 h
      refine lv_aload_n hx hb dX7_here_49 rfl (lv_at hl 0 rfl) ?_
      refine g7_3 CX hM hk_k wf_X7_16 dX7_here_50 ?_
      refine lv_aload_n hx hb dX7_here_53 rfl (lv_at hl 0 rfl) ?_
      refine g7_8 CX hM hk_k wf_X7_93 dX7_here_54 ?_
      obtain ⟨g3, h⟩ := ck_h h
      refine x_bald CX hM (kdYl (kd7_f hk_k).2.2.1 rfl) (ly22 (kd7_f hk_k).2.2.1 _) g3 dX7_here_57 ?_
      refine lv_sipush (v := 255) hx hb dX7_here_58 (by decide) ?_
      refine lv_iand hx hb dX7_here_61 ?_
      refine lv_goto (tgt := 66) hx hb dX7_here_62 (by decide) ?_
      obtain rfl := Option.some.inj h
      exact x_iret CX hr hlk hM rfl dX7_here_66
  have L0 : ∀ (N : Nat) (σ : xM), ∀ (H : Heap) (locs : List Loc) (ls : Array Slot), xS E B 7 (layY E B) s σ H locs → lv_has ls 1 [(0, .ref (B + k))] → F_X7_here_L0 k N  σ = some q → W p l e rm_X7_here s m ([.ref (B + k)] : List Value).toArray below meth c H locs 0 0 (MQ below (xQ E B 7 (layY E B) (some (.int q.1)) q.2) ([.ref (B + k)] : List Value).toArray s 0 0 (wA B 7)) (F0 m 0 ls []) := by
    clear hM hl h
    intro N
    induction N with
    | zero =>
      intro  σ  H locs ls hM hl h
      cases h
    | succ N ih =>
      intro  σ  H locs ls hM hl h
      rw [F_X7_here_L0] at h
      refine lv_aload_n hx hb dX7_here_0 rfl (lv_at hl 0 rfl) ?_
      refine g7_8 CX hM hk_k wf_X7_93 dX7_here_1 ?_
      refine lv_aload_n hx hb dX7_here_4 rfl (lv_at hl 0 rfl) ?_
      refine g7_4 CX hM hk_k wf_X7_90 dX7_here_5 ?_
      refine lv_icmp_ge (tgt := 38) hx hb dX7_here_8 (by decide) (fun c7 => ?_) (fun c7 => ?_)
      · replace h := it_h c7 h
        exact J38 _  _ _ _ hM (lv_sub hl [0] rfl) h
      · replace h := if_h c7 h
        refine lv_aload_n hx hb dX7_here_11 rfl (lv_at hl 0 rfl) ?_
        refine g7_3 CX hM hk_k wf_X7_16 dX7_here_12 ?_
        refine lv_aload_n hx hb dX7_here_15 rfl (lv_at hl 0 rfl) ?_
        refine g7_8 CX hM hk_k wf_X7_93 dX7_here_16 ?_
        obtain ⟨g8, h⟩ := ck_h h
        refine x_bald CX hM (kdYl (kd7_f hk_k).2.2.1 rfl) (ly22 (kd7_f hk_k).2.2.1 _) g8 dX7_here_19 ?_
        refine lv_bipush (v := 32) hx hb dX7_here_20 (by decide) ?_
        refine lv_icmp_ne (tgt := 38) hx hb dX7_here_22 (by decide) (fun c9 => ?_) (fun c9 => ?_)
        · replace h := if_h c9 h
          exact J38 _  _ _ _ hM (lv_sub hl [0] rfl) h
        · replace h := it_h c9 h
          refine lv_aload_n hx hb dX7_here_25 rfl (lv_at hl 0 rfl) ?_
          refine lv_dup hx hb dX7_here_26 rfl ?_
          refine g7_8 CX hM hk_k wf_X7_93 dX7_here_27 ?_
          refine lv_iconst (v := 1) hx hb dX7_here_30 (by decide) ?_
          refine lv_iadd hx hb dX7_here_31 ?_
          refine p7_8 (y := ((σ k 8) + 1)) CX hM hk_k wf_X7_93 dX7_here_32 (fun H locs σ10 eσ10 hM => ?_)
          replace h := nm_h eσ10 h
          refine lv_goto (tgt := 0) hx hb dX7_here_35 (by decide) ?_
          exact ih _  _ _ _ hM (lv_sub hl [0] rfl) h
  refine lv_aload_n hx hb dX7_here_0 rfl (lv_at hl 0 rfl) ?_
  refine g7_8 CX hM hk_k wf_X7_93 dX7_here_1 ?_
  refine lv_aload_n hx hb dX7_here_4 rfl (lv_at hl 0 rfl) ?_
  refine g7_4 CX hM hk_k wf_X7_90 dX7_here_5 ?_
  refine lv_icmp_ge (tgt := 38) hx hb dX7_here_8 (by decide) (fun c1 => ?_) (fun c1 => ?_)
  · replace h := it_h c1 h
    exact J38 _  _ _ _ hM (lv_sub hl [0] rfl) h
  · replace h := if_h c1 h
    refine lv_aload_n hx hb dX7_here_11 rfl (lv_at hl 0 rfl) ?_
    refine g7_3 CX hM hk_k wf_X7_16 dX7_here_12 ?_
    refine lv_aload_n hx hb dX7_here_15 rfl (lv_at hl 0 rfl) ?_
    refine g7_8 CX hM hk_k wf_X7_93 dX7_here_16 ?_
    obtain ⟨g4, h⟩ := ck_h h
    refine x_bald CX hM (kdYl (kd7_f hk_k).2.2.1 rfl) (ly22 (kd7_f hk_k).2.2.1 _) g4 dX7_here_19 ?_
    refine lv_bipush (v := 32) hx hb dX7_here_20 (by decide) ?_
    refine lv_icmp_ne (tgt := 38) hx hb dX7_here_22 (by decide) (fun c5 => ?_) (fun c5 => ?_)
    · replace h := if_h c5 h
      exact J38 _  _ _ _ hM (lv_sub hl [0] rfl) h
    · replace h := it_h c5 h
      refine lv_aload_n hx hb dX7_here_25 rfl (lv_at hl 0 rfl) ?_
      refine lv_dup hx hb dX7_here_26 rfl ?_
      refine g7_8 CX hM hk_k wf_X7_93 dX7_here_27 ?_
      refine lv_iconst (v := 1) hx hb dX7_here_30 (by decide) ?_
      refine lv_iadd hx hb dX7_here_31 ?_
      refine p7_8 (y := ((σ k 8) + 1)) CX hM hk_k wf_X7_93 dX7_here_32 (fun H locs σ6 eσ6 hM => ?_)
      replace h := nm_h eσ6 h
      refine lv_goto (tgt := 0) hx hb dX7_here_35 (by decide) ?_
      exact L0 _ _  _ _ _ hM (lv_sub hl [0] rfl) h
def rm_X7_reads : Jvm.Room := { frames := 1, cells := 0, slots := 0, locals := 22 }
set_option maxHeartbeats 4000000 in
set_option maxRecDepth 100000 in
theorem c_X7_reads (l : Launch) (E : xE) (B : Nat) {k : Nat} {x1 : Int32} {x2 : Int32} {x3 : Int32} {σ : xM} {q : Int32 × xM} (hk_k : kdY k = 7) (h : F_X7_reads k x1 x2 x3 σ = some q) : Met l yX7_reads (Cond.code yX7_reads cX7_reads 10 (some .boolean) :: AL) rm_X7_reads (xP E B 7 (layY E B) [.ref (B + k), .int x1, .int x2, .int x3] σ) (xQ E B 7 (layY E B) (some (.int (bz q.1))) q.2) 0 0 (wA B 7) := by
  refine x_met (plainFor_of_name (by decide +kernel)) (Nat.le_of_ble_eq_true rfl) rfl ?_
  intro p e s m below meth c ls CX hr hlk hM hl
  have hx := CX.1.1
  have hb := CX.1.2.1
  unfold F_X7_reads at h
  have J218 : ∀ (v9 : Int32) (y0 : Int32) (σ : xM), ∀ (H : Heap) (locs : List Loc) (ls : Array Slot), xS E B 7 (layY E B) s σ H locs → lv_has ls 10 [(9, .int (bz v9))] → F_X7_reads_J218 k v9 y0 σ = some q → W p l e rm_X7_reads s m ([.ref (B + k), .int x1, .int x2, .int x3] : List Value).toArray below meth c H locs 0 0 (MQ below (xQ E B 7 (layY E B) (some (.int (bz q.1))) q.2) ([.ref (B + k), .int x1, .int x2, .int x3] : List Value).toArray s 0 0 (wA B 7)) (F0 m 218 ls [.int y0, .ref (B + k)]) := by
    clear hM hl h
    intro v9 y0 σ  H locs ls hM hl h
    unfold F_X7_reads_J218 at h
    refine p7_8 (y := y0) CX hM hk_k wf_X7_93 dX7_reads_218 (fun H locs σ16 eσ16 hM => ?_)
    replace h := nm_h eσ16 h
    refine lv_iload hx hb dX7_reads_221 (lv_at hl 0 rfl) ?_
    obtain rfl := Option.some.inj h
    exact x_zret (y := v9) CX hr hlk hM rfl rfl dX7_reads_223
  have J201 : ∀ (v5 : Int32) (y0 : Int32) (σ : xM), ∀ (H : Heap) (locs : List Loc) (ls : Array Slot), xS E B 7 (layY E B) s σ H locs → lv_has ls 10 [(0, .ref (B + k)), (5, .int v5)] → F_X7_reads_J201 k v5 y0 σ = some q → W p l e rm_X7_reads s m ([.ref (B + k), .int x1, .int x2, .int x3] : List Value).toArray below meth c H locs 0 0 (MQ below (xQ E B 7 (layY E B) (some (.int (bz q.1))) q.2) ([.ref (B + k), .int x1, .int x2, .int x3] : List Value).toArray s 0 0 (wA B 7)) (F0 m 201 ls [.int (bz y0)]) := by
    clear hM hl h
    intro v5 y0 σ  H locs ls hM hl h
    unfold F_X7_reads_J201 at h
    refine lv_istore (lv' := [(9, .int (bz y0)), (0, .ref (B + k)), (5, .int v5)]) hx hb dX7_reads_201 hl (by decide) rfl (fun ls hl => ?_)
    refine lv_aload_n hx hb dX7_reads_203 rfl (lv_at hl 1 rfl) ?_
    refine lv_iload hx hb dX7_reads_204 (lv_at hl 0 rfl) ?_
    refine lv_if_eq (tgt := 216) hx hb dX7_reads_206 (by decide) (fun c15 => ?_) (fun c15 => ?_)
    · replace h := it_h c15 h
      refine lv_iload hx hb dX7_reads_216 (lv_at hl 2 rfl) ?_
      exact J218 _ _ _  _ _ _ hM (lv_sub hl [0] rfl) h
    · replace h := if_h c15 h
      refine lv_aload_n hx hb dX7_reads_209 rfl (lv_at hl 1 rfl) ?_
      refine g7_8 CX hM hk_k wf_X7_93 dX7_reads_210 ?_
      refine lv_goto (tgt := 218) hx hb dX7_reads_213 (by decide) ?_
      exact J218 _ _ _  _ _ _ hM (lv_sub hl [0] rfl) h
  have J200 : ∀ (v5 : Int32) (σ : xM), ∀ (H : Heap) (locs : List Loc) (ls : Array Slot), xS E B 7 (layY E B) s σ H locs → lv_has ls 10 [(0, .ref (B + k)), (5, .int v5)] → F_X7_reads_J200 k v5 σ = some q → W p l e rm_X7_reads s m ([.ref (B + k), .int x1, .int x2, .int x3] : List Value).toArray below meth c H locs 0 0 (MQ below (xQ E B 7 (layY E B) (some (.int (bz q.1))) q.2) ([.ref (B + k), .int x1, .int x2, .int x3] : List Value).toArray s 0 0 (wA B 7)) (F0 m 200 ls []) := by
    clear hM hl h
    intro v5 σ  H locs ls hM hl h
    unfold F_X7_reads_J200 at h
    refine lv_iconst (v := 0) hx hb dX7_reads_200 (by decide) ?_
    exact J201 _ _ _  _ _ _ hM (lv_sub hl [0, 1] rfl) h
  have J184 : ∀ (v1 : Int32) (v2 : Int32) (v5 : Int32) (σ : xM), ∀ (H : Heap) (locs : List Loc) (ls : Array Slot), xS E B 7 (layY E B) s σ H locs → lv_has ls 10 [(0, .ref (B + k)), (1, .int v1), (2, .int v2), (5, .int v5)] → F_X7_reads_J184 k v1 v2 v5 σ = some q → W p l e rm_X7_reads s m ([.ref (B + k), .int x1, .int x2, .int x3] : List Value).toArray below meth c H locs 0 0 (MQ below (xQ E B 7 (layY E B) (some (.int (bz q.1))) q.2) ([.ref (B + k), .int x1, .int x2, .int x3] : List Value).toArray s 0 0 (wA B 7)) (F0 m 184 ls []) := by
    clear hM hl h
    intro v1 v2 v5 σ  H locs ls hM hl h
    unfold F_X7_reads_J184 at h
    refine lv_aload_n hx hb dX7_reads_184 rfl (lv_at hl 0 rfl) ?_
    refine g7_9 CX hM hk_k wf_X7_101 dX7_reads_185 ?_
    refine lv_iload_n hx hb dX7_reads_188 rfl (lv_at hl 1 rfl) ?_
    refine lv_iload_n hx hb dX7_reads_189 rfl (lv_at hl 2 rfl) ?_
    obtain ⟨q13, eq13, h⟩ := bd_h h
    refine x_callS (As := [.int (σ k 9), .int v1, .int v2]) CX hM lk_X7_35 (c_X7_in l E B  eq13) ⟨rfl, rfl, by decide, by decide⟩ rfl hl.1 rfl (Nat.le_of_ble_eq_true rfl) dX7_reads_190 (fun H locs hM => ?_)
    refine W.eq (g2 := F0 m 193 ls [.int (bz q13.1)]) rfl ?_
    refine lv_if_eq (tgt := 200) hx hb dX7_reads_193 (by decide) (fun c14 => ?_) (fun c14 => ?_)
    · replace h := it_h c14 h
      exact J200 _ _  _ _ _ hM (lv_sub hl [0, 3] rfl) h
    · replace h := if_h c14 h
      refine lv_iconst (v := 1) hx hb dX7_reads_196 (by decide) ?_
      refine lv_goto (tgt := 201) hx hb dX7_reads_197 (by decide) ?_
      exact J201 _ _ _  _ _ _ hM (lv_sub hl [0, 3] rfl) h
  have J158 : ∀ (v1 : Int32) (v2 : Int32) (v5 : Int32) (v7 : Int32) (y0 : Int32) (σ : xM), ∀ (H : Heap) (locs : List Loc) (ls : Array Slot), xS E B 7 (layY E B) s σ H locs → lv_has ls 10 [(0, .ref (B + k)), (1, .int v1), (2, .int v2), (5, .int v5), (7, .int v7)] → F_X7_reads_J158 k v1 v2 v5 v7 y0 σ = some q → W p l e rm_X7_reads s m ([.ref (B + k), .int x1, .int x2, .int x3] : List Value).toArray below meth c H locs 0 0 (MQ below (xQ E B 7 (layY E B) (some (.int (bz q.1))) q.2) ([.ref (B + k), .int x1, .int x2, .int x3] : List Value).toArray s 0 0 (wA B 7)) (F0 m 158 ls [.int y0, .ref (B + k)]) := by
    clear hM hl h
    intro v1 v2 v5 v7 y0 σ  H locs ls hM hl h
    unfold F_X7_reads_J158 at h
    refine p7_9 (y := y0) CX hM hk_k wf_X7_101 dX7_reads_158 (fun H locs σ10 eσ10 hM => ?_)
    replace h := nm_h eσ10 h
    refine lv_aload_n hx hb dX7_reads_161 rfl (lv_at hl 0 rfl) ?_
    refine g7_3 CX hM hk_k wf_X7_16 dX7_reads_162 ?_
    refine lv_iload hx hb dX7_reads_165 (lv_at hl 4 rfl) ?_
    obtain ⟨g11, h⟩ := ck_h h
    refine x_bald CX hM (kdYl (kd7_f hk_k).2.2.1 rfl) (ly22 (kd7_f hk_k).2.2.1 _) g11 dX7_reads_167 ?_
    refine lv_bipush (v := 48) hx hb dX7_reads_168 (by decide) ?_
    refine lv_icmp_ne (tgt := 184) hx hb dX7_reads_170 (by decide) (fun c12 => ?_) (fun c12 => ?_)
    · replace h := if_h c12 h
      exact J184 _ _ _ _  _ _ _ hM (lv_sub hl [0, 1, 2, 3] rfl) h
    · replace h := it_h c12 h
      refine lv_aload_n hx hb dX7_reads_173 rfl (lv_at hl 0 rfl) ?_
      refine g7_8 CX hM hk_k wf_X7_93 dX7_reads_174 ?_
      refine lv_iload hx hb dX7_reads_177 (lv_at hl 4 rfl) ?_
      refine lv_iconst (v := 1) hx hb dX7_reads_179 (by decide) ?_
      refine lv_iadd hx hb dX7_reads_180 ?_
      refine lv_icmp_ne (tgt := 200) hx hb dX7_reads_181 (by decide) (fun c17 => ?_) (fun c17 => ?_)
      · replace h := if_h c17 h
        exact J200 _ _  _ _ _ hM (lv_sub hl [0, 3] rfl) h
      · replace h := it_h c17 h
        exact J184 _ _ _ _  _ _ _ hM (lv_sub hl [0, 1, 2, 3] rfl) h
  have J133 : ∀ (v1 : Int32) (v2 : Int32) (v5 : Int32) (v6 : Int32) (v7 : Int32) (v8 : Int32) (σ : xM), ∀ (H : Heap) (locs : List Loc) (ls : Array Slot), xS E B 7 (layY E B) s σ H locs → lv_has ls 10 [(0, .ref (B + k)), (1, .int v1), (2, .int v2), (5, .int v5), (6, .int v6), (7, .int v7), (8, .int v8)] → F_X7_reads_J133 k v1 v2 v5 v6 v7 v8 σ = some q → W p l e rm_X7_reads s m ([.ref (B + k), .int x1, .int x2, .int x3] : List Value).toArray below meth c H locs 0 0 (MQ below (xQ E B 7 (layY E B) (some (.int (bz q.1))) q.2) ([.ref (B + k), .int x1, .int x2, .int x3] : List Value).toArray s 0 0 (wA B 7)) (F0 m 133 ls []) := by
    clear hM hl h
    intro v1 v2 v5 v6 v7 v8 σ  H locs ls hM hl h
    unfold F_X7_reads_J133 at h
    refine lv_aload_n hx hb dX7_reads_133 rfl (lv_at hl 0 rfl) ?_
    refine g7_8 CX hM hk_k wf_X7_93 dX7_reads_134 ?_
    refine lv_iload hx hb dX7_reads_137 (lv_at hl 5 rfl) ?_
    refine lv_icmp_ne (tgt := 144) hx hb dX7_reads_139 (by decide) (fun c8 => ?_) (fun c8 => ?_)
    · replace h := if_h c8 h
      refine lv_aload_n hx hb dX7_reads_144 rfl (lv_at hl 0 rfl) ?_
      refine lv_iload hx hb dX7_reads_145 (lv_at hl 4 rfl) ?_
      refine lv_if_eq (tgt := 156) hx hb dX7_reads_147 (by decide) (fun c9 => ?_) (fun c9 => ?_)
      · replace h := it_h c9 h
        refine lv_iload hx hb dX7_reads_156 (lv_at hl 6 rfl) ?_
        exact J158 _ _ _ _ _ _  _ _ _ hM (lv_sub hl [0, 1, 2, 3, 5] rfl) h
      · replace h := if_h c9 h
        refine lv_iload hx hb dX7_reads_150 (lv_at hl 6 rfl) ?_
        refine lv_ineg hx hb dX7_reads_152 ?_
        refine lv_goto (tgt := 158) hx hb dX7_reads_153 (by decide) ?_
        exact J158 _ _ _ _ _ _  _ _ _ hM (lv_sub hl [0, 1, 2, 3, 5] rfl) h
    · replace h := it_h c8 h
      refine lv_iconst (v := 0) hx hb dX7_reads_142 (by decide) ?_
      obtain rfl := Option.some.inj h
      exact x_zret (y := 0) CX hr hlk hM rfl rfl dX7_reads_143
  have L58 : ∀ (N : Nat) (v1 : Int32) (v2 : Int32) (v5 : Int32) (v6 : Int32) (v7 : Int32) (v8 : Int32) (σ : xM), ∀ (H : Heap) (locs : List Loc) (ls : Array Slot), xS E B 7 (layY E B) s σ H locs → lv_has ls 10 [(0, .ref (B + k)), (1, .int v1), (2, .int v2), (5, .int v5), (6, .int v6), (7, .int v7), (8, .int v8)] → F_X7_reads_L58 k N v1 v2 v5 v6 v7 v8 σ = some q → W p l e rm_X7_reads s m ([.ref (B + k), .int x1, .int x2, .int x3] : List Value).toArray below meth c H locs 0 0 (MQ below (xQ E B 7 (layY E B) (some (.int (bz q.1))) q.2) ([.ref (B + k), .int x1, .int x2, .int x3] : List Value).toArray s 0 0 (wA B 7)) (F0 m 58 ls []) := by
    clear hM hl h
    intro N
    induction N with
    | zero =>
      intro v1 v2 v5 v6 v7 v8 σ  H locs ls hM hl h
      cases h
    | succ N ih =>
      intro v1 v2 v5 v6 v7 v8 σ  H locs ls hM hl h
      rw [F_X7_reads_L58] at h
      refine lv_aload_n hx hb dX7_reads_58 rfl (lv_at hl 0 rfl) ?_
      refine g7_8 CX hM hk_k wf_X7_93 dX7_reads_59 ?_
      refine lv_aload_n hx hb dX7_reads_62 rfl (lv_at hl 0 rfl) ?_
      refine g7_4 CX hM hk_k wf_X7_90 dX7_reads_63 ?_
      refine lv_icmp_ge (tgt := 133) hx hb dX7_reads_66 (by decide) (fun c7 => ?_) (fun c7 => ?_)
      · replace h := it_h c7 h
        exact J133 _ _ _ _ _ _ _  _ _ _ hM (lv_sub hl [0, 1, 2, 3, 4, 5, 6] rfl) h
      · replace h := if_h c7 h
        refine lv_aload_n hx hb dX7_reads_69 rfl (lv_at hl 0 rfl) ?_
        refine g7_3 CX hM hk_k wf_X7_16 dX7_reads_70 ?_
        refine lv_aload_n hx hb dX7_reads_73 rfl (lv_at hl 0 rfl) ?_
        refine g7_8 CX hM hk_k wf_X7_93 dX7_reads_74 ?_
        obtain ⟨g18, h⟩ := ck_h h
        refine x_bald CX hM (kdYl (kd7_f hk_k).2.2.1 rfl) (ly22 (kd7_f hk_k).2.2.1 _) g18 dX7_reads_77 ?_
        refine lv_bipush (v := 48) hx hb dX7_reads_78 (by decide) ?_
        refine lv_bipush (v := 57) hx hb dX7_reads_80 (by decide) ?_
        obtain ⟨q19, eq19, h⟩ := bd_h h
        refine x_callS (As := [.int (σ (k + 3) (Int32.toNatClampNeg (σ k 8))), .int 48, .int 57]) CX hM lk_X7_35 (c_X7_in l E B  eq19) ⟨rfl, rfl, by decide, by decide⟩ rfl hl.1 rfl (Nat.le_of_ble_eq_true rfl) dX7_reads_82 (fun H locs hM => ?_)
        refine W.eq (g2 := F0 m 85 ls [.int (bz q19.1)]) rfl ?_
        refine lv_if_eq (tgt := 133) hx hb dX7_reads_85 (by decide) (fun c20 => ?_) (fun c20 => ?_)
        · replace h := it_h c20 h
          exact J133 _ _ _ _ _ _ _  _ _ _ hM (lv_sub hl [0, 1, 2, 3, 4, 5, 6] rfl) h
        · replace h := if_h c20 h
          refine lv_iload hx hb dX7_reads_88 (lv_at hl 6 rfl) ?_
          refine lv_ldc (v := 100000) hx hb CX.1.2.2.2.1 (x_hts CX wc_X7_100) dX7_reads_90 ?_
          refine lv_icmp_ge (tgt := 116) hx hb dX7_reads_92 (by decide) (fun c21 => ?_) (fun c21 => ?_)
          · replace h := it_h c21 h
            refine lv_iload hx hb dX7_reads_116 (lv_at hl 6 rfl) ?_
            refine lv_istore (lv' := [(8, .int v8), (0, .ref (B + k)), (1, .int v1), (2, .int v2), (5, .int v5), (6, .int v6), (7, .int v7)]) hx hb dX7_reads_118 hl (by decide) rfl (fun ls hl => ?_)
            refine lv_aload_n hx hb dX7_reads_120 rfl (lv_at hl 1 rfl) ?_
            refine lv_dup hx hb dX7_reads_121 rfl ?_
            refine g7_8 CX hM hk_k wf_X7_93 dX7_reads_122 ?_
            refine lv_iconst (v := 1) hx hb dX7_reads_125 (by decide) ?_
            refine lv_iadd hx hb dX7_reads_126 ?_
            refine p7_8 (y := ((q19.2 k 8) + 1)) CX hM hk_k wf_X7_93 dX7_reads_127 (fun H locs σ22 eσ22 hM => ?_)
            replace h := nm_h eσ22 h
            refine lv_goto (tgt := 58) hx hb dX7_reads_130 (by decide) ?_
            exact ih _ _ _ _ _ _ _  _ _ _ hM (lv_sub hl [1, 2, 3, 4, 5, 6, 0] rfl) h
          · replace h := if_h c21 h
            refine lv_bipush (v := 10) hx hb dX7_reads_95 (by decide) ?_
            refine lv_iload hx hb dX7_reads_97 (lv_at hl 6 rfl) ?_
            refine lv_imul hx hb dX7_reads_99 ?_
            refine lv_aload_n hx hb dX7_reads_100 rfl (lv_at hl 0 rfl) ?_
            refine g7_3 CX hM hk_k wf_X7_16 dX7_reads_101 ?_
            refine lv_aload_n hx hb dX7_reads_104 rfl (lv_at hl 0 rfl) ?_
            refine g7_8 CX hM hk_k wf_X7_93 dX7_reads_105 ?_
            obtain ⟨g23, h⟩ := ck_h h
            refine x_bald CX hM (kdYl (kd7_f hk_k).2.2.1 rfl) (ly22 (kd7_f hk_k).2.2.1 _) g23 dX7_reads_108 ?_
            refine lv_iadd hx hb dX7_reads_109 ?_
            refine lv_bipush (v := 48) hx hb dX7_reads_110 (by decide) ?_
            refine lv_isub hx hb dX7_reads_112 ?_
            refine lv_goto (tgt := 118) hx hb dX7_reads_113 (by decide) ?_
            refine lv_topi (fun x8_24 ex8_24 => ?_)
            replace h := nm_h ex8_24 h
            refine lv_istore (lv' := [(8, .int x8_24), (0, .ref (B + k)), (1, .int v1), (2, .int v2), (5, .int v5), (6, .int v6), (7, .int v7)]) hx hb dX7_reads_118 hl (by decide) rfl (fun ls hl => ?_)
            refine lv_aload_n hx hb dX7_reads_120 rfl (lv_at hl 1 rfl) ?_
            refine lv_dup hx hb dX7_reads_121 rfl ?_
            refine g7_8 CX hM hk_k wf_X7_93 dX7_reads_122 ?_
            refine lv_iconst (v := 1) hx hb dX7_reads_125 (by decide) ?_
            refine lv_iadd hx hb dX7_reads_126 ?_
            refine p7_8 (y := ((q19.2 k 8) + 1)) CX hM hk_k wf_X7_93 dX7_reads_127 (fun H locs σ25 eσ25 hM => ?_)
            replace h := nm_h eσ25 h
            refine lv_goto (tgt := 58) hx hb dX7_reads_130 (by decide) ?_
            exact ih _ _ _ _ _ _ _  _ _ _ hM (lv_sub hl [1, 2, 3, 4, 5, 6, 0] rfl) h
  have J45 : ∀ (v1 : Int32) (v2 : Int32) (v5 : Int32) (v6 : Int32) (y0 : Int32) (y1 : Int32) (σ : xM), ∀ (H : Heap) (locs : List Loc) (ls : Array Slot), xS E B 7 (layY E B) s σ H locs → lv_has ls 10 [(0, .ref (B + k)), (1, .int v1), (2, .int v2), (5, .int v5), (6, .int v6)] → F_X7_reads_J45 k v1 v2 v5 v6 y0 y1 σ = some q → W p l e rm_X7_reads s m ([.ref (B + k), .int x1, .int x2, .int x3] : List Value).toArray below meth c H locs 0 0 (MQ below (xQ E B 7 (layY E B) (some (.int (bz q.1))) q.2) ([.ref (B + k), .int x1, .int x2, .int x3] : List Value).toArray s 0 0 (wA B 7)) (F0 m 45 ls [.int y0, .int y1, .ref (B + k)]) := by
    clear hM hl h
    intro v1 v2 v5 v6 y0 y1 σ  H locs ls hM hl h
    unfold F_X7_reads_J45 at h
    refine lv_iadd hx hb dX7_reads_45 ?_
    refine p7_8 (y := (y1 + y0)) CX hM hk_k wf_X7_93 dX7_reads_46 (fun H locs σ5 eσ5 hM => ?_)
    replace h := nm_h eσ5 h
    refine lv_aload_n hx hb dX7_reads_49 rfl (lv_at hl 0 rfl) ?_
    refine g7_8 CX hM hk_k wf_X7_93 dX7_reads_50 ?_
    refine lv_topi (fun x7_6 ex7_6 => ?_)
    replace h := nm_h ex7_6 h
    refine lv_istore (lv' := [(7, .int x7_6), (0, .ref (B + k)), (1, .int v1), (2, .int v2), (5, .int v5), (6, .int v6)]) hx hb dX7_reads_53 hl (by decide) rfl (fun ls hl => ?_)
    refine lv_iconst (v := 0) hx hb dX7_reads_55 (by decide) ?_
    refine lv_istore (lv' := [(8, .int 0), (7, .int x7_6), (0, .ref (B + k)), (1, .int v1), (2, .int v2), (5, .int v5), (6, .int v6)]) hx hb dX7_reads_56 hl (by decide) rfl (fun ls hl => ?_)
    exact L58 _ _ _ _ _ _ _ _  _ _ _ hM (lv_sub hl [2, 3, 4, 5, 6, 1, 0] rfl) h
  have J28 : ∀ (v1 : Int32) (v2 : Int32) (v5 : Int32) (y0 : Int32) (σ : xM), ∀ (H : Heap) (locs : List Loc) (ls : Array Slot), xS E B 7 (layY E B) s σ H locs → lv_has ls 10 [(0, .ref (B + k)), (1, .int v1), (2, .int v2), (5, .int v5)] → F_X7_reads_J28 k v1 v2 v5 y0 σ = some q → W p l e rm_X7_reads s m ([.ref (B + k), .int x1, .int x2, .int x3] : List Value).toArray below meth c H locs 0 0 (MQ below (xQ E B 7 (layY E B) (some (.int (bz q.1))) q.2) ([.ref (B + k), .int x1, .int x2, .int x3] : List Value).toArray s 0 0 (wA B 7)) (F0 m 28 ls [.int y0]) := by
    clear hM hl h
    intro v1 v2 v5 y0 σ  H locs ls hM hl h
    unfold F_X7_reads_J28 at h
    refine lv_istore (lv' := [(6, .int y0), (0, .ref (B + k)), (1, .int v1), (2, .int v2), (5, .int v5)]) hx hb dX7_reads_28 hl (by decide) rfl (fun ls hl => ?_)
    refine lv_aload_n hx hb dX7_reads_30 rfl (lv_at hl 1 rfl) ?_
    refine lv_dup hx hb dX7_reads_31 rfl ?_
    refine g7_8 CX hM hk_k wf_X7_93 dX7_reads_32 ?_
    refine lv_iload hx hb dX7_reads_35 (lv_at hl 0 rfl) ?_
    refine lv_if_eq (tgt := 44) hx hb dX7_reads_37 (by decide) (fun c4 => ?_) (fun c4 => ?_)
    · replace h := it_h c4 h
      refine lv_iconst (v := 0) hx hb dX7_reads_44 (by decide) ?_
      exact J45 _ _ _ _ _ _ _  _ _ _ hM (lv_sub hl [1, 2, 3, 4, 0] rfl) h
    · replace h := if_h c4 h
      refine lv_iconst (v := 1) hx hb dX7_reads_40 (by decide) ?_
      refine lv_goto (tgt := 45) hx hb dX7_reads_41 (by decide) ?_
      exact J45 _ _ _ _ _ _ _  _ _ _ hM (lv_sub hl [1, 2, 3, 4, 0] rfl) h
  have J27 : ∀ (v1 : Int32) (v2 : Int32) (v5 : Int32) (σ : xM), ∀ (H : Heap) (locs : List Loc) (ls : Array Slot), xS E B 7 (layY E B) s σ H locs → lv_has ls 10 [(0, .ref (B + k)), (1, .int v1), (2, .int v2), (5, .int v5)] → F_X7_reads_J27 k v1 v2 v5 σ = some q → W p l e rm_X7_reads s m ([.ref (B + k), .int x1, .int x2, .int x3] : List Value).toArray below meth c H locs 0 0 (MQ below (xQ E B 7 (layY E B) (some (.int (bz q.1))) q.2) ([.ref (B + k), .int x1, .int x2, .int x3] : List Value).toArray s 0 0 (wA B 7)) (F0 m 27 ls []) := by
    clear hM hl h
    intro v1 v2 v5 σ  H locs ls hM hl h
    unfold F_X7_reads_J27 at h
    refine lv_iconst (v := 0) hx hb dX7_reads_27 (by decide) ?_
    exact J28 _ _ _ _ _  _ _ _ hM (lv_sub hl [0, 1, 2, 3] rfl) h
  refine lv_aload_n hx hb dX7_reads_0 rfl (lv_at hl 0 rfl) ?_
  obtain ⟨q1, eq1, h⟩ := bd_h h
  refine x_callV (As := []) CX hM (kdYl hk_k rfl) (ly7 hk_k _) rfl lk_X7_96 (c_X7_here l E B hk_k eq1) ⟨rfl, rfl, by decide, by decide⟩ rfl hl.1 rfl (Nat.le_of_ble_eq_true rfl) dX7_reads_1 (fun H locs hM => ?_)
  refine W.eq (g2 := F0 m 4 ls [.int q1.1]) rfl ?_
  refine lv_istore (lv' := [(4, .int q1.1), (0, .ref (B + k)), (1, .int x1), (2, .int x2), (3, .int x3)]) hx hb dX7_reads_4 hl (by decide) rfl (fun ls hl => ?_)
  refine lv_aload_n hx hb dX7_reads_6 rfl (lv_at hl 1 rfl) ?_
  refine g7_8 CX hM hk_k wf_X7_93 dX7_reads_7 ?_
  refine lv_topi (fun x5_2 ex5_2 => ?_)
  replace h := nm_h ex5_2 h
  refine lv_istore (lv' := [(5, .int x5_2), (4, .int q1.1), (0, .ref (B + k)), (1, .int x1), (2, .int x2), (3, .int x3)]) hx hb dX7_reads_10 hl (by decide) rfl (fun ls hl => ?_)
  refine lv_iload_n hx hb dX7_reads_12 rfl (lv_at hl 5 rfl) ?_
  refine lv_if_eq (tgt := 27) hx hb dX7_reads_13 (by decide) (fun c3 => ?_) (fun c3 => ?_)
  · replace h := it_h c3 h
    exact J27 _ _ _ _  _ _ _ hM (lv_sub hl [2, 3, 4, 0] rfl) h
  · replace h := if_h c3 h
    refine lv_iload hx hb dX7_reads_16 (lv_at hl 1 rfl) ?_
    refine lv_bipush (v := 45) hx hb dX7_reads_18 (by decide) ?_
    refine lv_icmp_ne (tgt := 27) hx hb dX7_reads_20 (by decide) (fun c26 => ?_) (fun c26 => ?_)
    · replace h := if_h c26 h
      exact J27 _ _ _ _  _ _ _ hM (lv_sub hl [2, 3, 4, 0] rfl) h
    · replace h := it_h c26 h
      refine lv_iconst (v := 1) hx hb dX7_reads_23 (by decide) ?_
      refine lv_goto (tgt := 28) hx hb dX7_reads_24 (by decide) ?_
      exact J28 _ _ _ _ _  _ _ _ hM (lv_sub hl [2, 3, 4, 0] rfl) h
