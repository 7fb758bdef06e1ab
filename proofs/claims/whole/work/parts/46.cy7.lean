def rm_X7_opens : Jvm.Room := { frames := 1, cells := 0, slots := 0, locals := 23 }
set_option maxHeartbeats 4000000 in
set_option maxRecDepth 100000 in
theorem c_X7_opens (l : Launch) (E : xE) (B : Nat) {k : Nat} {x1 : Int32} {σ : xM} {q : Int32 × xM} (hk_k : kdY k = 7) (h : F_X7_opens k x1 σ = some q) : Met l yX7_opens (Cond.code yX7_opens cX7_opens 2 (some .int) :: AL) rm_X7_opens (xP E B 7 (layY E B) [.ref (B + k), .int x1] σ) (xQ E B 7 (layY E B) (some (.int q.1)) q.2) 0 0 (wA B 7) := by
  refine x_met (plainFor_of_name (by decide +kernel)) (Nat.le_of_ble_eq_true rfl) rfl ?_
  intro p e s m below meth c ls CX hr hlk hM hl
  have hx := CX.1.1
  have hb := CX.1.2.1
  unfold F_X7_opens at h
  have J69 : ∀ (v1 : Int32) (σ : xM), ∀ (H : Heap) (locs : List Loc) (ls : Array Slot), xS E B 7 (layY E B) s σ H locs → lv_has ls 2 [(0, .ref (B + k)), (1, .int v1)] → F_X7_opens_J69 k v1 σ = some q → W p l e rm_X7_opens s m ([.ref (B + k), .int x1] : List Value).toArray below meth c H locs 0 0 (MQ below (xQ E B 7 (layY E B) (some (.int q.1)) q.2) ([.ref (B + k), .int x1] : List Value).toArray s 0 0 (wA B 7)) (F0 m 69 ls []) := by
    clear hM hl h
    intro v1 σ  H locs ls hM hl h
    unfold F_X7_opens_J69 at h
    refine lv_aload_n hx hb dX7_opens_69 rfl (lv_at hl 0 rfl) ?_
    refine lv_iload_n hx hb dX7_opens_70 rfl (lv_at hl 1 rfl) ?_
    refine lv_bipush (v := 7) hx hb dX7_opens_71 (by decide) ?_
    refine lv_iconst (v := 0) hx hb dX7_opens_73 (by decide) ?_
    obtain ⟨q3, eq3, h⟩ := bd_h h
    refine x_callV (As := [.int v1, .int 7, .int 0]) CX hM (kdYl hk_k rfl) (ly7 hk_k _) rfl lk_X7_51 (c_X7_puts l E B hk_k eq3) ⟨rfl, rfl, by decide, by decide⟩ rfl hl.1 rfl (Nat.le_of_ble_eq_true rfl) dX7_opens_74 (fun H locs hM => ?_)
    refine W.eq (g2 := F0 m 77 ls []) rfl ?_
    refine lv_iconst (v := 1) hx hb dX7_opens_77 (by decide) ?_
    obtain rfl := Option.some.inj h
    exact x_iret CX hr hlk hM rfl dX7_opens_78
  refine lv_aload_n hx hb dX7_opens_0 rfl (lv_at hl 0 rfl) ?_
  refine lv_iload_n hx hb dX7_opens_1 rfl (lv_at hl 1 rfl) ?_
  refine lv_bipush (v := 8) hx hb dX7_opens_2 (by decide) ?_
  obtain ⟨q1, eq1, h⟩ := bd_h h
  refine x_callV (As := [.int x1, .int 8]) CX hM (kdYl hk_k rfl) (ly7 hk_k _) rfl lk_X7_39 (c_X7_of l E B hk_k eq1) ⟨rfl, rfl, by decide, by decide⟩ rfl hl.1 rfl (Nat.le_of_ble_eq_true rfl) dX7_opens_4 (fun H locs hM => ?_)
  refine W.eq (g2 := F0 m 7 ls [.int q1.1]) rfl ?_
  refine lv_iconst (v := 1) hx hb dX7_opens_7 (by decide) ?_
  refine lv_icmp_ne (tgt := 69) hx hb dX7_opens_8 (by decide) (fun c2 => ?_) (fun c2 => ?_)
  · replace h := if_h c2 h
    exact J69 _ _  _ _ _ hM (lv_sub hl [0, 1] rfl) h
  · replace h := it_h c2 h
    refine lv_aload_n hx hb dX7_opens_11 rfl (lv_at hl 0 rfl) ?_
    refine lv_iload_n hx hb dX7_opens_12 rfl (lv_at hl 1 rfl) ?_
    refine lv_bipush (v := 10) hx hb dX7_opens_13 (by decide) ?_
    refine lv_iconst (v := 1) hx hb dX7_opens_15 (by decide) ?_
    obtain ⟨q4, eq4, h⟩ := bd_h h
    refine x_callV (As := [.int x1, .int 10, .int 1]) CX hM (kdYl hk_k rfl) (ly7 hk_k _) rfl lk_X7_81 (c_X7_grows l E B hk_k eq4) ⟨rfl, rfl, by decide, by decide⟩ rfl hl.1 rfl (Nat.le_of_ble_eq_true rfl) dX7_opens_16 (fun H locs hM => ?_)
    refine W.eq (g2 := F0 m 19 ls []) rfl ?_
    refine lv_aload_n hx hb dX7_opens_19 rfl (lv_at hl 0 rfl) ?_
    refine lv_iload_n hx hb dX7_opens_20 rfl (lv_at hl 1 rfl) ?_
    refine lv_bipush (v := 10) hx hb dX7_opens_21 (by decide) ?_
    obtain ⟨q5, eq5, h⟩ := bd_h h
    refine x_callV (As := [.int x1, .int 10]) CX hM (kdYl hk_k rfl) (ly7 hk_k _) rfl lk_X7_39 (c_X7_of l E B hk_k eq5) ⟨rfl, rfl, by decide, by decide⟩ rfl hl.1 rfl (Nat.le_of_ble_eq_true rfl) dX7_opens_23 (fun H locs hM => ?_)
    refine W.eq (g2 := F0 m 26 ls [.int q5.1]) rfl ?_
    refine lv_aload_n hx hb dX7_opens_26 rfl (lv_at hl 0 rfl) ?_
    refine g7_0 CX hM hk_k wf_X7_7 dX7_opens_27 ?_
    refine lv_iconst (v := 2) hx hb dX7_opens_30 (by decide) ?_
    obtain ⟨g6, h⟩ := ck_h h
    refine x_iald CX hM (kdYl (kd7_f hk_k).1 rfl) (ly20 (kd7_f hk_k).1 _) g6 dX7_opens_31 ?_
    refine lv_icmp_ge (tgt := 37) hx hb dX7_opens_32 (by decide) (fun c7 => ?_) (fun c7 => ?_)
    · replace h := it_h c7 h
      refine lv_aload_n hx hb dX7_opens_37 rfl (lv_at hl 0 rfl) ?_
      refine lv_iload_n hx hb dX7_opens_38 rfl (lv_at hl 1 rfl) ?_
      refine lv_bipush (v := 8) hx hb dX7_opens_39 (by decide) ?_
      refine lv_iconst (v := 0) hx hb dX7_opens_41 (by decide) ?_
      obtain ⟨q8, eq8, h⟩ := bd_h h
      refine x_callV (As := [.int x1, .int 8, .int 0]) CX hM (kdYl hk_k rfl) (ly7 hk_k _) rfl lk_X7_51 (c_X7_puts l E B hk_k eq8) ⟨rfl, rfl, by decide, by decide⟩ rfl hl.1 rfl (Nat.le_of_ble_eq_true rfl) dX7_opens_42 (fun H locs hM => ?_)
      refine W.eq (g2 := F0 m 45 ls []) rfl ?_
      refine lv_aload_n hx hb dX7_opens_45 rfl (lv_at hl 0 rfl) ?_
      refine lv_iload_n hx hb dX7_opens_46 rfl (lv_at hl 1 rfl) ?_
      refine lv_bipush (v := 10) hx hb dX7_opens_47 (by decide) ?_
      refine lv_iconst (v := 0) hx hb dX7_opens_49 (by decide) ?_
      obtain ⟨q9, eq9, h⟩ := bd_h h
      refine x_callV (As := [.int x1, .int 10, .int 0]) CX hM (kdYl hk_k rfl) (ly7 hk_k _) rfl lk_X7_51 (c_X7_puts l E B hk_k eq9) ⟨rfl, rfl, by decide, by decide⟩ rfl hl.1 rfl (Nat.le_of_ble_eq_true rfl) dX7_opens_50 (fun H locs hM => ?_)
      refine W.eq (g2 := F0 m 53 ls []) rfl ?_
      refine lv_aload_n hx hb dX7_opens_53 rfl (lv_at hl 0 rfl) ?_
      refine lv_iload_n hx hb dX7_opens_54 rfl (lv_at hl 1 rfl) ?_
      refine lv_bipush (v := 9) hx hb dX7_opens_55 (by decide) ?_
      refine lv_aload_n hx hb dX7_opens_57 rfl (lv_at hl 0 rfl) ?_
      refine lv_iload_n hx hb dX7_opens_58 rfl (lv_at hl 1 rfl) ?_
      refine lv_bipush (v := 9) hx hb dX7_opens_59 (by decide) ?_
      obtain ⟨q10, eq10, h⟩ := bd_h h
      refine x_callV (As := [.int x1, .int 9]) CX hM (kdYl hk_k rfl) (ly7 hk_k _) rfl lk_X7_39 (c_X7_of l E B hk_k eq10) ⟨rfl, rfl, by decide, by decide⟩ rfl hl.1 rfl (Nat.le_of_ble_eq_true rfl) dX7_opens_61 (fun H locs hM => ?_)
      refine W.eq (g2 := F0 m 64 ls [.int q10.1, .int 9, .int x1, .ref (B + k)]) rfl ?_
      refine lv_iconst (v := 2) hx hb dX7_opens_64 (by decide) ?_
      refine lv_idiv hx hb dX7_opens_65 (by decide) ?_
      obtain ⟨q11, eq11, h⟩ := bd_h h
      refine x_callV (As := [.int x1, .int 9, .int (q10.1 / 2)]) CX hM (kdYl hk_k rfl) (ly7 hk_k _) rfl lk_X7_51 (c_X7_puts l E B hk_k eq11) ⟨rfl, rfl, by decide, by decide⟩ rfl hl.1 rfl (Nat.le_of_ble_eq_true rfl) dX7_opens_66 (fun H locs hM => ?_)
      refine W.eq (g2 := F0 m 69 ls []) rfl ?_
      exact J69 _ _  _ _ _ hM (lv_sub hl [0, 1] rfl) h
    · replace h := if_h c7 h
      refine lv_iconst (v := 0) hx hb dX7_opens_35 (by decide) ?_
      obtain rfl := Option.some.inj h
      exact x_iret CX hr hlk hM rfl dX7_opens_36
def rm_X7_turns : Jvm.Room := { frames := 2, cells := 0, slots := 0, locals := 45 }
set_option maxHeartbeats 4000000 in
set_option maxRecDepth 100000 in
theorem c_X7_turns (l : Launch) (E : xE) (B : Nat) {k : Nat} {x1 : Int32} {σ : xM} {q : Int32 × xM} (hk_k : kdY k = 7) (h : F_X7_turns k x1 σ = some q) : Met l yX7_turns (Cond.code yX7_turns cX7_turns 6 (some .int) :: AL) rm_X7_turns (xP E B 7 (layY E B) [.ref (B + k), .int x1] σ) (xQ E B 7 (layY E B) (some (.int q.1)) q.2) 0 0 (wA B 7) := by
  refine x_met (plainFor_of_name (by decide +kernel)) (Nat.le_of_ble_eq_true rfl) rfl ?_
  intro p e s m below meth c ls CX hr hlk hM hl
  have hx := CX.1.1
  have hb := CX.1.2.1
  unfold F_X7_turns at h
  have J189 : ∀ (v5 : Int32) (y0 : Int32) (y1 : Int32) (y2 : Int32) (σ : xM), ∀ (H : Heap) (locs : List Loc) (ls : Array Slot), xS E B 7 (layY E B) s σ H locs → lv_has ls 6 [(5, .int v5)] → F_X7_turns_J189 k v5 y0 y1 y2 σ = some q → W p l e rm_X7_turns s m ([.ref (B + k), .int x1] : List Value).toArray below meth c H locs 0 0 (MQ below (xQ E B 7 (layY E B) (some (.int q.1)) q.2) ([.ref (B + k), .int x1] : List Value).toArray s 0 0 (wA B 7)) (F0 m 189 ls [.int y0, .int y1, .int y2, .ref (B + k)]) := by
    clear hM hl h
    intro v5 y0 y1 y2 σ  H locs ls hM hl h
    unfold F_X7_turns_J189 at h
    obtain ⟨q19, eq19, h⟩ := bd_h h
    refine x_callV (As := [.int y2, .int y1, .int y0]) CX hM (kdYl hk_k rfl) (ly7 hk_k _) rfl lk_X7_51 (c_X7_puts l E B hk_k eq19) ⟨rfl, rfl, by decide, by decide⟩ rfl hl.1 rfl (Nat.le_of_ble_eq_true rfl) dX7_turns_189 (fun H locs hM => ?_)
    refine W.eq (g2 := F0 m 192 ls []) rfl ?_
    refine lv_iload hx hb dX7_turns_192 (lv_at hl 0 rfl) ?_
    obtain rfl := Option.some.inj h
    exact x_iret CX hr hlk hM rfl dX7_turns_194
  have J188 : ∀ (v5 : Int32) (y0 : Int32) (y1 : Int32) (σ : xM), ∀ (H : Heap) (locs : List Loc) (ls : Array Slot), xS E B 7 (layY E B) s σ H locs → lv_has ls 6 [(5, .int v5)] → F_X7_turns_J188 k v5 y0 y1 σ = some q → W p l e rm_X7_turns s m ([.ref (B + k), .int x1] : List Value).toArray below meth c H locs 0 0 (MQ below (xQ E B 7 (layY E B) (some (.int q.1)) q.2) ([.ref (B + k), .int x1] : List Value).toArray s 0 0 (wA B 7)) (F0 m 188 ls [.int y0, .int y1, .ref (B + k)]) := by
    clear hM hl h
    intro v5 y0 y1 σ  H locs ls hM hl h
    unfold F_X7_turns_J188 at h
    refine lv_iconst (v := 0) hx hb dX7_turns_188 (by decide) ?_
    exact J189 _ _ _ _ _  _ _ _ hM (lv_sub hl [0] rfl) h
  have J156 : ∀ (v1 : Int32) (v4 : Int32) (v5 : Int32) (σ : xM), ∀ (H : Heap) (locs : List Loc) (ls : Array Slot), xS E B 7 (layY E B) s σ H locs → lv_has ls 6 [(0, .ref (B + k)), (1, .int v1), (4, .int v4), (5, .int v5)] → F_X7_turns_J156 k v1 v4 v5 σ = some q → W p l e rm_X7_turns s m ([.ref (B + k), .int x1] : List Value).toArray below meth c H locs 0 0 (MQ below (xQ E B 7 (layY E B) (some (.int q.1)) q.2) ([.ref (B + k), .int x1] : List Value).toArray s 0 0 (wA B 7)) (F0 m 156 ls []) := by
    clear hM hl h
    intro v1 v4 v5 σ  H locs ls hM hl h
    unfold F_X7_turns_J156 at h
    refine lv_aload_n hx hb dX7_turns_156 rfl (lv_at hl 0 rfl) ?_
    refine lv_iload_n hx hb dX7_turns_157 rfl (lv_at hl 1 rfl) ?_
    refine lv_bipush (v := 13) hx hb dX7_turns_158 (by decide) ?_
    refine lv_aload_n hx hb dX7_turns_160 rfl (lv_at hl 0 rfl) ?_
    refine lv_iload_n hx hb dX7_turns_161 rfl (lv_at hl 1 rfl) ?_
    refine lv_bipush (v := 7) hx hb dX7_turns_162 (by decide) ?_
    obtain ⟨q17, eq17, h⟩ := bd_h h
    refine x_callV (As := [.int v1, .int 7]) CX hM (kdYl hk_k rfl) (ly7 hk_k _) rfl lk_X7_39 (c_X7_of l E B hk_k eq17) ⟨rfl, rfl, by decide, by decide⟩ rfl hl.1 rfl (Nat.le_of_ble_eq_true rfl) dX7_turns_164 (fun H locs hM => ?_)
    refine W.eq (g2 := F0 m 167 ls [.int q17.1, .int 13, .int v1, .ref (B + k)]) rfl ?_
    refine lv_iconst (v := 1) hx hb dX7_turns_167 (by decide) ?_
    refine lv_icmp_ne (tgt := 188) hx hb dX7_turns_168 (by decide) (fun c18 => ?_) (fun c18 => ?_)
    · replace h := if_h c18 h
      exact J188 _ _ _ _  _ _ _ hM (lv_sub hl [3] rfl) h
    · replace h := it_h c18 h
      refine lv_iload hx hb dX7_turns_171 (lv_at hl 2 rfl) ?_
      refine lv_if_eq (tgt := 188) hx hb dX7_turns_173 (by decide) (fun c20 => ?_) (fun c20 => ?_)
      · replace h := it_h c20 h
        exact J188 _ _ _ _  _ _ _ hM (lv_sub hl [3] rfl) h
      · replace h := if_h c20 h
        refine lv_aload_n hx hb dX7_turns_176 rfl (lv_at hl 0 rfl) ?_
        refine lv_iload_n hx hb dX7_turns_177 rfl (lv_at hl 1 rfl) ?_
        refine lv_bipush (v := 13) hx hb dX7_turns_178 (by decide) ?_
        obtain ⟨q21, eq21, h⟩ := bd_h h
        refine x_callV (As := [.int v1, .int 13]) CX hM (kdYl hk_k rfl) (ly7 hk_k _) rfl lk_X7_39 (c_X7_of l E B hk_k eq21) ⟨rfl, rfl, by decide, by decide⟩ rfl hl.1 rfl (Nat.le_of_ble_eq_true rfl) dX7_turns_180 (fun H locs hM => ?_)
        refine W.eq (g2 := F0 m 183 ls [.int q21.1, .int 13, .int v1, .ref (B + k)]) rfl ?_
        refine lv_iconst (v := 1) hx hb dX7_turns_183 (by decide) ?_
        refine lv_iadd hx hb dX7_turns_184 ?_
        refine lv_goto (tgt := 189) hx hb dX7_turns_185 (by decide) ?_
        exact J189 _ _ _ _ _  _ _ _ hM (lv_sub hl [3] rfl) h
  have J133 : ∀ (v1 : Int32) (v4 : Int32) (v5 : Int32) (σ : xM), ∀ (H : Heap) (locs : List Loc) (ls : Array Slot), xS E B 7 (layY E B) s σ H locs → lv_has ls 6 [(0, .ref (B + k)), (1, .int v1), (4, .int v4), (5, .int v5)] → F_X7_turns_J133 k v1 v4 v5 σ = some q → W p l e rm_X7_turns s m ([.ref (B + k), .int x1] : List Value).toArray below meth c H locs 0 0 (MQ below (xQ E B 7 (layY E B) (some (.int q.1)) q.2) ([.ref (B + k), .int x1] : List Value).toArray s 0 0 (wA B 7)) (F0 m 133 ls []) := by
    clear hM hl h
    intro v1 v4 v5 σ  H locs ls hM hl h
    unfold F_X7_turns_J133 at h
    refine lv_aload_n hx hb dX7_turns_133 rfl (lv_at hl 0 rfl) ?_
    refine lv_iload_n hx hb dX7_turns_134 rfl (lv_at hl 1 rfl) ?_
    refine lv_bipush (v := 7) hx hb dX7_turns_135 (by decide) ?_
    obtain ⟨q15, eq15, h⟩ := bd_h h
    refine x_callV (As := [.int v1, .int 7]) CX hM (kdYl hk_k rfl) (ly7 hk_k _) rfl lk_X7_39 (c_X7_of l E B hk_k eq15) ⟨rfl, rfl, by decide, by decide⟩ rfl hl.1 rfl (Nat.le_of_ble_eq_true rfl) dX7_turns_137 (fun H locs hM => ?_)
    refine W.eq (g2 := F0 m 140 ls [.int q15.1]) rfl ?_
    refine lv_iconst (v := 1) hx hb dX7_turns_140 (by decide) ?_
    refine lv_icmp_ne (tgt := 156) hx hb dX7_turns_141 (by decide) (fun c16 => ?_) (fun c16 => ?_)
    · replace h := if_h c16 h
      exact J156 _ _ _ _  _ _ _ hM (lv_sub hl [0, 1, 2, 3] rfl) h
    · replace h := it_h c16 h
      refine lv_iload hx hb dX7_turns_144 (lv_at hl 2 rfl) ?_
      refine lv_if_eq (tgt := 156) hx hb dX7_turns_146 (by decide) (fun c22 => ?_) (fun c22 => ?_)
      · replace h := it_h c22 h
        exact J156 _ _ _ _  _ _ _ hM (lv_sub hl [0, 1, 2, 3] rfl) h
      · replace h := if_h c22 h
        refine lv_aload_n hx hb dX7_turns_149 rfl (lv_at hl 0 rfl) ?_
        refine lv_iload_n hx hb dX7_turns_150 rfl (lv_at hl 1 rfl) ?_
        obtain ⟨q23, eq23, h⟩ := bd_h h
        refine x_callV (As := [.int v1]) CX hM (kdYl hk_k rfl) (ly7 hk_k _) rfl lk_X7_122 (c_X7_opens l E B hk_k eq23) ⟨rfl, rfl, by decide, by decide⟩ rfl hl.1 rfl (Nat.le_of_ble_eq_true rfl) dX7_turns_151 (fun H locs hM => ?_)
        refine W.eq (g2 := F0 m 154 ls [.int q23.1]) rfl ?_
        refine lv_istore (lv' := [(5, .int q23.1), (0, .ref (B + k)), (1, .int v1), (4, .int v4)]) hx hb dX7_turns_154 hl (by decide) rfl (fun ls hl => ?_)
        exact J156 _ _ _ _  _ _ _ hM (lv_sub hl [1, 2, 3, 0] rfl) h
  have J90 : ∀ (v1 : Int32) (v3 : Int32) (y0 : Int32) (σ : xM), ∀ (H : Heap) (locs : List Loc) (ls : Array Slot), xS E B 7 (layY E B) s σ H locs → lv_has ls 6 [(0, .ref (B + k)), (1, .int v1), (3, .int v3)] → F_X7_turns_J90 k v1 v3 y0 σ = some q → W p l e rm_X7_turns s m ([.ref (B + k), .int x1] : List Value).toArray below meth c H locs 0 0 (MQ below (xQ E B 7 (layY E B) (some (.int q.1)) q.2) ([.ref (B + k), .int x1] : List Value).toArray s 0 0 (wA B 7)) (F0 m 90 ls [.int y0]) := by
    clear hM hl h
    intro v1 v3 y0 σ  H locs ls hM hl h
    unfold F_X7_turns_J90 at h
    refine lv_istore (lv' := [(4, .int y0), (0, .ref (B + k)), (1, .int v1), (3, .int v3)]) hx hb dX7_turns_90 hl (by decide) rfl (fun ls hl => ?_)
    refine lv_iconst (v := 0) hx hb dX7_turns_92 (by decide) ?_
    refine lv_istore (lv' := [(5, .int 0), (4, .int y0), (0, .ref (B + k)), (1, .int v1), (3, .int v3)]) hx hb dX7_turns_93 hl (by decide) rfl (fun ls hl => ?_)
    refine lv_aload_n hx hb dX7_turns_95 rfl (lv_at hl 2 rfl) ?_
    refine lv_iload_n hx hb dX7_turns_96 rfl (lv_at hl 3 rfl) ?_
    refine lv_bipush (v := 7) hx hb dX7_turns_97 (by decide) ?_
    obtain ⟨q13, eq13, h⟩ := bd_h h
    refine x_callV (As := [.int v1, .int 7]) CX hM (kdYl hk_k rfl) (ly7 hk_k _) rfl lk_X7_39 (c_X7_of l E B hk_k eq13) ⟨rfl, rfl, by decide, by decide⟩ rfl hl.1 rfl (Nat.le_of_ble_eq_true rfl) dX7_turns_99 (fun H locs hM => ?_)
    refine W.eq (g2 := F0 m 102 ls [.int q13.1]) rfl ?_
    refine lv_if_ne (tgt := 133) hx hb dX7_turns_102 (by decide) (fun c14 => ?_) (fun c14 => ?_)
    · replace h := if_h c14 h
      exact J133 _ _ _ _  _ _ _ hM (lv_sub hl [2, 3, 1, 0] rfl) h
    · replace h := it_h c14 h
      refine lv_iload_n hx hb dX7_turns_105 rfl (lv_at hl 4 rfl) ?_
      refine lv_aload_n hx hb dX7_turns_106 rfl (lv_at hl 2 rfl) ?_
      refine lv_iload_n hx hb dX7_turns_107 rfl (lv_at hl 3 rfl) ?_
      refine lv_iconst (v := 4) hx hb dX7_turns_108 (by decide) ?_
      obtain ⟨q24, eq24, h⟩ := bd_h h
      refine x_callV (As := [.int v1, .int 4]) CX hM (kdYl hk_k rfl) (ly7 hk_k _) rfl lk_X7_39 (c_X7_of l E B hk_k eq24) ⟨rfl, rfl, by decide, by decide⟩ rfl hl.1 rfl (Nat.le_of_ble_eq_true rfl) dX7_turns_109 (fun H locs hM => ?_)
      refine W.eq (g2 := F0 m 112 ls [.int q24.1, .int v3]) rfl ?_
      refine lv_aload_n hx hb dX7_turns_112 rfl (lv_at hl 2 rfl) ?_
      refine lv_iload_n hx hb dX7_turns_113 rfl (lv_at hl 3 rfl) ?_
      refine lv_iconst (v := 5) hx hb dX7_turns_114 (by decide) ?_
      obtain ⟨q25, eq25, h⟩ := bd_h h
      refine x_callV (As := [.int v1, .int 5]) CX hM (kdYl hk_k rfl) (ly7 hk_k _) rfl lk_X7_39 (c_X7_of l E B hk_k eq25) ⟨rfl, rfl, by decide, by decide⟩ rfl hl.1 rfl (Nat.le_of_ble_eq_true rfl) dX7_turns_115 (fun H locs hM => ?_)
      refine W.eq (g2 := F0 m 118 ls [.int q25.1, .int q24.1, .int v3]) rfl ?_
      refine lv_isub hx hb dX7_turns_118 ?_
      refine lv_icmp_gt (tgt := 133) hx hb dX7_turns_119 (by decide) (fun c26 => ?_) (fun c26 => ?_)
      · replace h := it_h c26 h
        exact J133 _ _ _ _  _ _ _ hM (lv_sub hl [2, 3, 1, 0] rfl) h
      · replace h := if_h c26 h
        refine lv_aload_n hx hb dX7_turns_122 rfl (lv_at hl 2 rfl) ?_
        refine lv_iload_n hx hb dX7_turns_123 rfl (lv_at hl 3 rfl) ?_
        obtain ⟨q27, eq27, h⟩ := bd_h h
        refine x_callV (As := [.int v1]) CX hM (kdYl hk_k rfl) (ly7 hk_k _) rfl lk_X7_118 (c_X7_closes l E B hk_k eq27) ⟨rfl, rfl, by decide, by decide⟩ rfl hl.1 rfl (Nat.le_of_ble_eq_true rfl) dX7_turns_124 (fun H locs hM => ?_)
        refine W.eq (g2 := F0 m 127 ls []) rfl ?_
        refine lv_iconst (v := 1) hx hb dX7_turns_127 (by decide) ?_
        refine lv_istore (lv' := [(5, .int 1), (4, .int y0), (0, .ref (B + k)), (1, .int v1), (3, .int v3)]) hx hb dX7_turns_128 hl (by decide) rfl (fun ls hl => ?_)
        refine lv_goto (tgt := 156) hx hb dX7_turns_130 (by decide) ?_
        exact J156 _ _ _ _  _ _ _ hM (lv_sub hl [2, 3, 1, 0] rfl) h
  have J31 : ∀ (v1 : Int32) (v2 : Int32) (y0 : Int32) (y1 : Int32) (y2 : Int32) (σ : xM), ∀ (H : Heap) (locs : List Loc) (ls : Array Slot), xS E B 7 (layY E B) s σ H locs → lv_has ls 6 [(0, .ref (B + k)), (1, .int v1), (2, .int v2)] → F_X7_turns_J31 k v1 v2 y0 y1 y2 σ = some q → W p l e rm_X7_turns s m ([.ref (B + k), .int x1] : List Value).toArray below meth c H locs 0 0 (MQ below (xQ E B 7 (layY E B) (some (.int q.1)) q.2) ([.ref (B + k), .int x1] : List Value).toArray s 0 0 (wA B 7)) (F0 m 31 ls [.int y0, .int y1, .int y2, .ref (B + k)]) := by
    clear hM hl h
    intro v1 v2 y0 y1 y2 σ  H locs ls hM hl h
    unfold F_X7_turns_J31 at h
    obtain ⟨q5, eq5, h⟩ := bd_h h
    refine x_callV (As := [.int y2, .int y1, .int y0]) CX hM (kdYl hk_k rfl) (ly7 hk_k _) rfl lk_X7_51 (c_X7_puts l E B hk_k eq5) ⟨rfl, rfl, by decide, by decide⟩ rfl hl.1 rfl (Nat.le_of_ble_eq_true rfl) dX7_turns_31 (fun H locs hM => ?_)
    refine W.eq (g2 := F0 m 34 ls []) rfl ?_
    refine lv_aload_n hx hb dX7_turns_34 rfl (lv_at hl 0 rfl) ?_
    refine lv_iload_n hx hb dX7_turns_35 rfl (lv_at hl 1 rfl) ?_
    refine lv_bipush (v := 6) hx hb dX7_turns_36 (by decide) ?_
    refine lv_iload_n hx hb dX7_turns_38 rfl (lv_at hl 2 rfl) ?_
    refine lv_aload_n hx hb dX7_turns_39 rfl (lv_at hl 0 rfl) ?_
    refine lv_iload_n hx hb dX7_turns_40 rfl (lv_at hl 1 rfl) ?_
    refine lv_bipush (v := 6) hx hb dX7_turns_41 (by decide) ?_
    obtain ⟨q6, eq6, h⟩ := bd_h h
    refine x_callV (As := [.int v1, .int 6]) CX hM (kdYl hk_k rfl) (ly7 hk_k _) rfl lk_X7_39 (c_X7_of l E B hk_k eq6) ⟨rfl, rfl, by decide, by decide⟩ rfl hl.1 rfl (Nat.le_of_ble_eq_true rfl) dX7_turns_43 (fun H locs hM => ?_)
    refine W.eq (g2 := F0 m 46 ls [.int q6.1, .int v2, .int 6, .int v1, .ref (B + k)]) rfl ?_
    refine lv_isub hx hb dX7_turns_46 ?_
    refine lv_aload_n hx hb dX7_turns_47 rfl (lv_at hl 0 rfl) ?_
    refine g7_0 CX hM hk_k wf_X7_7 dX7_turns_48 ?_
    refine lv_iconst (v := 0) hx hb dX7_turns_51 (by decide) ?_
    obtain ⟨g7, h⟩ := ck_h h
    refine x_iald CX hM (kdYl (kd7_f hk_k).1 rfl) (ly20 (kd7_f hk_k).1 _) g7 dX7_turns_52 ?_
    refine lv_imul hx hb dX7_turns_53 ?_
    refine lv_bipush (v := 100) hx hb dX7_turns_54 (by decide) ?_
    refine lv_idiv hx hb dX7_turns_56 (by decide) ?_
    obtain ⟨q8, eq8, h⟩ := bd_h h
    refine x_callV (As := [.int v1, .int 6, .int (((v2 - q6.1) * (q6.2 (k + 1) (Int32.toNatClampNeg 0))) / 100)]) CX hM (kdYl hk_k rfl) (ly7 hk_k _) rfl lk_X7_81 (c_X7_grows l E B hk_k eq8) ⟨rfl, rfl, by decide, by decide⟩ rfl hl.1 rfl (Nat.le_of_ble_eq_true rfl) dX7_turns_57 (fun H locs hM => ?_)
    refine W.eq (g2 := F0 m 60 ls []) rfl ?_
    refine lv_aload_n hx hb dX7_turns_60 rfl (lv_at hl 0 rfl) ?_
    refine lv_iload_n hx hb dX7_turns_61 rfl (lv_at hl 1 rfl) ?_
    refine lv_bipush (v := 6) hx hb dX7_turns_62 (by decide) ?_
    obtain ⟨q9, eq9, h⟩ := bd_h h
    refine x_callV (As := [.int v1, .int 6]) CX hM (kdYl hk_k rfl) (ly7 hk_k _) rfl lk_X7_39 (c_X7_of l E B hk_k eq9) ⟨rfl, rfl, by decide, by decide⟩ rfl hl.1 rfl (Nat.le_of_ble_eq_true rfl) dX7_turns_64 (fun H locs hM => ?_)
    refine W.eq (g2 := F0 m 67 ls [.int q9.1]) rfl ?_
    refine lv_istore_n (lv' := [(3, .int q9.1), (0, .ref (B + k)), (1, .int v1), (2, .int v2)]) hx hb dX7_turns_67 rfl hl (by decide) rfl (fun ls hl => ?_)
    refine lv_iload_n hx hb dX7_turns_68 rfl (lv_at hl 0 rfl) ?_
    refine lv_aload_n hx hb dX7_turns_69 rfl (lv_at hl 1 rfl) ?_
    refine lv_iload_n hx hb dX7_turns_70 rfl (lv_at hl 2 rfl) ?_
    refine lv_iconst (v := 4) hx hb dX7_turns_71 (by decide) ?_
    obtain ⟨q10, eq10, h⟩ := bd_h h
    refine x_callV (As := [.int v1, .int 4]) CX hM (kdYl hk_k rfl) (ly7 hk_k _) rfl lk_X7_39 (c_X7_of l E B hk_k eq10) ⟨rfl, rfl, by decide, by decide⟩ rfl hl.1 rfl (Nat.le_of_ble_eq_true rfl) dX7_turns_72 (fun H locs hM => ?_)
    refine W.eq (g2 := F0 m 75 ls [.int q10.1, .int q9.1]) rfl ?_
    refine lv_aload_n hx hb dX7_turns_75 rfl (lv_at hl 1 rfl) ?_
    refine lv_iload_n hx hb dX7_turns_76 rfl (lv_at hl 2 rfl) ?_
    refine lv_iconst (v := 5) hx hb dX7_turns_77 (by decide) ?_
    obtain ⟨q11, eq11, h⟩ := bd_h h
    refine x_callV (As := [.int v1, .int 5]) CX hM (kdYl hk_k rfl) (ly7 hk_k _) rfl lk_X7_39 (c_X7_of l E B hk_k eq11) ⟨rfl, rfl, by decide, by decide⟩ rfl hl.1 rfl (Nat.le_of_ble_eq_true rfl) dX7_turns_78 (fun H locs hM => ?_)
    refine W.eq (g2 := F0 m 81 ls [.int q11.1, .int q10.1, .int q9.1]) rfl ?_
    refine lv_iadd hx hb dX7_turns_81 ?_
    refine lv_icmp_lt (tgt := 89) hx hb dX7_turns_82 (by decide) (fun c12 => ?_) (fun c12 => ?_)
    · replace h := it_h c12 h
      refine lv_iconst (v := 0) hx hb dX7_turns_89 (by decide) ?_
      exact J90 _ _ _ _  _ _ _ hM (lv_sub hl [1, 2, 0] rfl) h
    · replace h := if_h c12 h
      refine lv_iconst (v := 1) hx hb dX7_turns_85 (by decide) ?_
      refine lv_goto (tgt := 90) hx hb dX7_turns_86 (by decide) ?_
      exact J90 _ _ _ _  _ _ _ hM (lv_sub hl [1, 2, 0] rfl) h
  refine lv_aload_n hx hb dX7_turns_0 rfl (lv_at hl 0 rfl) ?_
  refine lv_iload_n hx hb dX7_turns_1 rfl (lv_at hl 1 rfl) ?_
  obtain ⟨q1, eq1, h⟩ := bd_h h
  refine x_callV (As := [.int x1]) CX hM (kdYl hk_k rfl) (ly7 hk_k _) rfl lk_X7_84 (c_X7_temperature l E B hk_k eq1) ⟨rfl, rfl, by decide, by decide⟩ rfl hl.1 rfl (Nat.le_of_ble_eq_true rfl) dX7_turns_2 (fun H locs hM => ?_)
  refine W.eq (g2 := F0 m 5 ls [.int q1.1]) rfl ?_
  refine lv_istore_n (lv' := [(2, .int q1.1), (0, .ref (B + k)), (1, .int x1)]) hx hb dX7_turns_5 rfl hl (by decide) rfl (fun ls hl => ?_)
  refine lv_aload_n hx hb dX7_turns_6 rfl (lv_at hl 1 rfl) ?_
  refine lv_iload_n hx hb dX7_turns_7 rfl (lv_at hl 2 rfl) ?_
  refine lv_bipush (v := 14) hx hb dX7_turns_8 (by decide) ?_
  refine lv_iload_n hx hb dX7_turns_10 rfl (lv_at hl 0 rfl) ?_
  refine lv_aload_n hx hb dX7_turns_11 rfl (lv_at hl 1 rfl) ?_
  refine g7_0 CX hM hk_k wf_X7_7 dX7_turns_12 ?_
  refine lv_iconst (v := 5) hx hb dX7_turns_15 (by decide) ?_
  obtain ⟨g2, h⟩ := ck_h h
  refine x_iald CX hM (kdYl (kd7_f hk_k).1 rfl) (ly20 (kd7_f hk_k).1 _) g2 dX7_turns_16 ?_
  refine lv_icmp_le (tgt := 24) hx hb dX7_turns_17 (by decide) (fun c3 => ?_) (fun c3 => ?_)
  · replace h := it_h c3 h
    refine lv_aload_n hx hb dX7_turns_24 rfl (lv_at hl 1 rfl) ?_
    refine lv_iload_n hx hb dX7_turns_25 rfl (lv_at hl 2 rfl) ?_
    refine lv_bipush (v := 14) hx hb dX7_turns_26 (by decide) ?_
    obtain ⟨q4, eq4, h⟩ := bd_h h
    refine x_callV (As := [.int x1, .int 14]) CX hM (kdYl hk_k rfl) (ly7 hk_k _) rfl lk_X7_39 (c_X7_of l E B hk_k eq4) ⟨rfl, rfl, by decide, by decide⟩ rfl hl.1 rfl (Nat.le_of_ble_eq_true rfl) dX7_turns_28 (fun H locs hM => ?_)
    refine W.eq (g2 := F0 m 31 ls [.int q4.1, .int 14, .int x1, .ref (B + k)]) rfl ?_
    exact J31 _ _ _ _ _ _  _ _ _ hM (lv_sub hl [1, 2, 0] rfl) h
  · replace h := if_h c3 h
    refine lv_iconst (v := 1) hx hb dX7_turns_20 (by decide) ?_
    refine lv_goto (tgt := 31) hx hb dX7_turns_21 (by decide) ?_
    exact J31 _ _ _ _ _ _  _ _ _ hM (lv_sub hl [1, 2, 0] rfl) h
def rm_X7_minute : Jvm.Room := { frames := 3, cells := 0, slots := 0, locals := 70 }
set_option maxHeartbeats 4000000 in
set_option maxRecDepth 100000 in
theorem c_X7_minute (l : Launch) (E : xE) (B : Nat) {k : Nat} {σ : xM} {q : Int32 × xM} (hk_k : kdY k = 7) (h : F_X7_minute k σ = some q) : Met l yX7_minute (Cond.code yX7_minute cX7_minute 4 (some .int) :: AL) rm_X7_minute (xP E B 7 (layY E B) [.ref (B + k)] σ) (xQ E B 7 (layY E B) (some (.int q.1)) q.2) 0 0 (wA B 7) := by
  refine x_met (plainFor_of_name (by decide +kernel)) (Nat.le_of_ble_eq_true rfl) rfl ?_
  intro p e s m below meth c ls CX hr hlk hM hl
  have hx := CX.1.1
  have hb := CX.1.2.1
  unfold F_X7_minute at h
  have L71 : ∀ (N : Nat) (v2 : Int32) (v3 : Int32) (σ : xM), ∀ (H : Heap) (locs : List Loc) (ls : Array Slot), xS E B 7 (layY E B) s σ H locs → lv_has ls 4 [(0, .ref (B + k)), (2, .int v2), (3, .int v3)] → F_X7_minute_L71 k N v2 v3 σ = some q → W p l e rm_X7_minute s m ([.ref (B + k)] : List Value).toArray below meth c H locs 0 0 (MQ below (xQ E B 7 (layY E B) (some (.int q.1)) q.2) ([.ref (B + k)] : List Value).toArray s 0 0 (wA B 7)) (F0 m 71 ls []) := by
    clear hM hl h
    intro N
    induction N with
    | zero =>
      intro v2 v3 σ  H locs ls hM hl h
      cases h
    | succ N ih =>
      intro v2 v3 σ  H locs ls hM hl h
      rw [F_X7_minute_L71] at h
      refine lv_iload_n hx hb dX7_minute_71 rfl (lv_at hl 2 rfl) ?_
      refine lv_aload_n hx hb dX7_minute_72 rfl (lv_at hl 0 rfl) ?_
      refine g7_0 CX hM hk_k wf_X7_7 dX7_minute_73 ?_
      refine lv_bipush (v := 7) hx hb dX7_minute_76 (by decide) ?_
      obtain ⟨g7, h⟩ := ck_h h
      refine x_iald CX hM (kdYl (kd7_f hk_k).1 rfl) (ly20 (kd7_f hk_k).1 _) g7 dX7_minute_78 ?_
      refine lv_icmp_ge (tgt := 96) hx hb dX7_minute_79 (by decide) (fun c8 => ?_) (fun c8 => ?_)
      · replace h := it_h c8 h
        refine lv_aload_n hx hb dX7_minute_96 rfl (lv_at hl 0 rfl) ?_
        refine g7_0 CX hM hk_k wf_X7_7 dX7_minute_97 ?_
        refine lv_bipush (v := 8) hx hb dX7_minute_100 (by decide) ?_
        refine lv_dup2_11 hx hb dX7_minute_102 rfl rfl ?_
        obtain ⟨g9, h⟩ := ck_h h
        refine x_iald CX hM (kdYl (kd7_f hk_k).1 rfl) (ly20 (kd7_f hk_k).1 _) g9 dX7_minute_103 ?_
        refine lv_iconst (v := 1) hx hb dX7_minute_104 (by decide) ?_
        refine lv_iadd hx hb dX7_minute_105 ?_
        obtain ⟨g10, h⟩ := ck_h h
        refine x_iast CX hM (kdYl (kd7_f hk_k).1 rfl) (fun f => ly20 (kd7_f hk_k).1 f) g10 dX7_minute_106 (fun H locs σ11 eσ11 hM => ?_)
        replace h := nm_h eσ11 h
        refine lv_iload_n hx hb dX7_minute_107 rfl (lv_at hl 1 rfl) ?_
        obtain rfl := Option.some.inj h
        exact x_iret CX hr hlk hM rfl dX7_minute_108
      · replace h := if_h c8 h
        refine lv_iload_n hx hb dX7_minute_82 rfl (lv_at hl 1 rfl) ?_
        refine lv_aload_n hx hb dX7_minute_83 rfl (lv_at hl 0 rfl) ?_
        refine lv_iload_n hx hb dX7_minute_84 rfl (lv_at hl 2 rfl) ?_
        obtain ⟨q12, eq12, h⟩ := bd_h h
        refine x_callV (As := [.int v3]) CX hM (kdYl hk_k rfl) (ly7 hk_k _) rfl lk_X7_129 (c_X7_turns l E B hk_k eq12) ⟨rfl, rfl, by decide, by decide⟩ rfl hl.1 rfl (Nat.le_of_ble_eq_true rfl) dX7_minute_85 (fun H locs hM => ?_)
        refine W.eq (g2 := F0 m 88 ls [.int q12.1, .int v2]) rfl ?_
        refine lv_iadd hx hb dX7_minute_88 ?_
        refine lv_topi (fun x2_13 ex2_13 => ?_)
        replace h := nm_h ex2_13 h
        refine lv_istore_n (lv' := [(2, .int x2_13), (0, .ref (B + k)), (3, .int v3)]) hx hb dX7_minute_89 rfl hl (by decide) rfl (fun ls hl => ?_)
        refine lv_iinc (v := (v3 + 1)) (lv' := [(3, .int (v3 + 1)), (2, .int x2_13), (0, .ref (B + k))]) hx hb dX7_minute_90 hl (k := 2) rfl rfl (by decide) rfl (fun ls hl => ?_)
        refine lv_goto (tgt := 71) hx hb dX7_minute_93 (by decide) ?_
        exact ih _ _ _  _ _ _ hM (lv_sub hl [2, 1, 0] rfl) h
  have L44 : ∀ (N : Nat) (v1 : Int32) (v2 : Int32) (σ : xM), ∀ (H : Heap) (locs : List Loc) (ls : Array Slot), xS E B 7 (layY E B) s σ H locs → lv_has ls 4 [(0, .ref (B + k)), (1, .int v1), (2, .int v2)] → F_X7_minute_L44 k N v1 v2 σ = some q → W p l e rm_X7_minute s m ([.ref (B + k)] : List Value).toArray below meth c H locs 0 0 (MQ below (xQ E B 7 (layY E B) (some (.int q.1)) q.2) ([.ref (B + k)] : List Value).toArray s 0 0 (wA B 7)) (F0 m 44 ls []) := by
    clear hM hl h
    intro N
    induction N with
    | zero =>
      intro v1 v2 σ  H locs ls hM hl h
      cases h
    | succ N ih =>
      intro v1 v2 σ  H locs ls hM hl h
      rw [F_X7_minute_L44] at h
      refine lv_iload_n hx hb dX7_minute_44 rfl (lv_at hl 2 rfl) ?_
      refine lv_aload_n hx hb dX7_minute_45 rfl (lv_at hl 0 rfl) ?_
      refine g7_0 CX hM hk_k wf_X7_7 dX7_minute_46 ?_
      refine lv_bipush (v := 7) hx hb dX7_minute_49 (by decide) ?_
      obtain ⟨g5, h⟩ := ck_h h
      refine x_iald CX hM (kdYl (kd7_f hk_k).1 rfl) (ly20 (kd7_f hk_k).1 _) g5 dX7_minute_51 ?_
      refine lv_icmp_ge (tgt := 67) hx hb dX7_minute_52 (by decide) (fun c6 => ?_) (fun c6 => ?_)
      · replace h := it_h c6 h
        refine lv_iconst (v := 0) hx hb dX7_minute_67 (by decide) ?_
        refine lv_istore_n (lv' := [(2, .int 0), (0, .ref (B + k)), (1, .int v1)]) hx hb dX7_minute_68 rfl hl (by decide) rfl (fun ls hl => ?_)
        refine lv_iconst (v := 0) hx hb dX7_minute_69 (by decide) ?_
        refine lv_istore_n (lv' := [(3, .int 0), (2, .int 0), (0, .ref (B + k)), (1, .int v1)]) hx hb dX7_minute_70 rfl hl (by decide) rfl (fun ls hl => ?_)
        exact L71 _ _ _ _  _ _ _ hM (lv_sub hl [2, 1, 0] rfl) h
      · replace h := if_h c6 h
        refine lv_aload_n hx hb dX7_minute_55 rfl (lv_at hl 0 rfl) ?_
        refine lv_iload_n hx hb dX7_minute_56 rfl (lv_at hl 2 rfl) ?_
        refine lv_iload_n hx hb dX7_minute_57 rfl (lv_at hl 1 rfl) ?_
        obtain ⟨q14, eq14, h⟩ := bd_h h
        refine x_callV (As := [.int v2, .int v1]) CX hM (kdYl hk_k rfl) (ly7 hk_k _) rfl lk_X7_125 (c_X7_flows l E B hk_k eq14) ⟨rfl, rfl, by decide, by decide⟩ rfl hl.1 rfl (Nat.le_of_ble_eq_true rfl) dX7_minute_58 (fun H locs hM => ?_)
        refine W.eq (g2 := F0 m 61 ls []) rfl ?_
        refine lv_iinc (v := (v2 + 1)) (lv' := [(2, .int (v2 + 1)), (0, .ref (B + k)), (1, .int v1)]) hx hb dX7_minute_61 hl (k := 2) rfl rfl (by decide) rfl (fun ls hl => ?_)
        refine lv_goto (tgt := 44) hx hb dX7_minute_64 (by decide) ?_
        exact ih _ _ _  _ _ _ hM (lv_sub hl [1, 2, 0] rfl) h
  have L14 : ∀ (N : Nat) (v1 : Int32) (v2 : Int32) (σ : xM), ∀ (H : Heap) (locs : List Loc) (ls : Array Slot), xS E B 7 (layY E B) s σ H locs → lv_has ls 4 [(0, .ref (B + k)), (1, .int v1), (2, .int v2)] → F_X7_minute_L14 k N v1 v2 σ = some q → W p l e rm_X7_minute s m ([.ref (B + k)] : List Value).toArray below meth c H locs 0 0 (MQ below (xQ E B 7 (layY E B) (some (.int q.1)) q.2) ([.ref (B + k)] : List Value).toArray s 0 0 (wA B 7)) (F0 m 14 ls []) := by
    clear hM hl h
    intro N
    induction N with
    | zero =>
      intro v1 v2 σ  H locs ls hM hl h
      cases h
    | succ N ih =>
      intro v1 v2 σ  H locs ls hM hl h
      rw [F_X7_minute_L14] at h
      refine lv_iload_n hx hb dX7_minute_14 rfl (lv_at hl 2 rfl) ?_
      refine lv_aload_n hx hb dX7_minute_15 rfl (lv_at hl 0 rfl) ?_
      refine g7_0 CX hM hk_k wf_X7_7 dX7_minute_16 ?_
      refine lv_bipush (v := 7) hx hb dX7_minute_19 (by decide) ?_
      obtain ⟨g3, h⟩ := ck_h h
      refine x_iald CX hM (kdYl (kd7_f hk_k).1 rfl) (ly20 (kd7_f hk_k).1 _) g3 dX7_minute_21 ?_
      refine lv_icmp_ge (tgt := 42) hx hb dX7_minute_22 (by decide) (fun c4 => ?_) (fun c4 => ?_)
      · replace h := it_h c4 h
        refine lv_iconst (v := 0) hx hb dX7_minute_42 (by decide) ?_
        refine lv_istore_n (lv' := [(2, .int 0), (0, .ref (B + k)), (1, .int v1)]) hx hb dX7_minute_43 rfl hl (by decide) rfl (fun ls hl => ?_)
        exact L44 _ _ _ _  _ _ _ hM (lv_sub hl [1, 2, 0] rfl) h
      · replace h := if_h c4 h
        refine lv_aload_n hx hb dX7_minute_25 rfl (lv_at hl 0 rfl) ?_
        refine g7_10 CX hM hk_k wf_X7_26 dX7_minute_26 ?_
        refine lv_iload_n hx hb dX7_minute_29 rfl (lv_at hl 2 rfl) ?_
        refine lv_aload_n hx hb dX7_minute_30 rfl (lv_at hl 0 rfl) ?_
        refine lv_iload_n hx hb dX7_minute_31 rfl (lv_at hl 2 rfl) ?_
        obtain ⟨q15, eq15, h⟩ := bd_h h
        refine x_callV (As := [.int v2]) CX hM (kdYl hk_k rfl) (ly7 hk_k _) rfl lk_X7_84 (c_X7_temperature l E B hk_k eq15) ⟨rfl, rfl, by decide, by decide⟩ rfl hl.1 rfl (Nat.le_of_ble_eq_true rfl) dX7_minute_32 (fun H locs hM => ?_)
        refine W.eq (g2 := F0 m 35 ls [.int q15.1, .int v2, .ref (B + (k + 6))]) rfl ?_
        obtain ⟨g16, h⟩ := ck_h h
        refine x_iast CX hM (kdYl (kd7_f hk_k).2.2.2.2.2 rfl) (fun f => ly25 (kd7_f hk_k).2.2.2.2.2 f) g16 dX7_minute_35 (fun H locs σ17 eσ17 hM => ?_)
        replace h := nm_h eσ17 h
        refine lv_iinc (v := (v2 + 1)) (lv' := [(2, .int (v2 + 1)), (0, .ref (B + k)), (1, .int v1)]) hx hb dX7_minute_36 hl (k := 2) rfl rfl (by decide) rfl (fun ls hl => ?_)
        refine lv_goto (tgt := 14) hx hb dX7_minute_39 (by decide) ?_
        exact ih _ _ _  _ _ _ hM (lv_sub hl [1, 2, 0] rfl) h
  refine lv_aload_n hx hb dX7_minute_0 rfl (lv_at hl 0 rfl) ?_
  refine lv_aload_n hx hb dX7_minute_1 rfl (lv_at hl 0 rfl) ?_
  refine g7_0 CX hM hk_k wf_X7_7 dX7_minute_2 ?_
  refine lv_bipush (v := 8) hx hb dX7_minute_5 (by decide) ?_
  obtain ⟨g1, h⟩ := ck_h h
  refine x_iald CX hM (kdYl (kd7_f hk_k).1 rfl) (ly20 (kd7_f hk_k).1 _) g1 dX7_minute_7 ?_
  obtain ⟨q2, eq2, h⟩ := bd_h h
  refine x_callV (As := [.int (σ (k + 1) (Int32.toNatClampNeg 8))]) CX hM (kdYl hk_k rfl) (ly7 hk_k _) rfl lk_X7_115 (c_X7_air l E B hk_k eq2) ⟨rfl, rfl, by decide, by decide⟩ rfl hl.1 rfl (Nat.le_of_ble_eq_true rfl) dX7_minute_8 (fun H locs hM => ?_)
  refine W.eq (g2 := F0 m 11 ls [.int q2.1]) rfl ?_
  refine lv_istore_n (lv' := [(1, .int q2.1), (0, .ref (B + k))]) hx hb dX7_minute_11 rfl hl (by decide) rfl (fun ls hl => ?_)
  refine lv_iconst (v := 0) hx hb dX7_minute_12 (by decide) ?_
  refine lv_istore_n (lv' := [(2, .int 0), (1, .int q2.1), (0, .ref (B + k))]) hx hb dX7_minute_13 rfl hl (by decide) rfl (fun ls hl => ?_)
  exact L14 _ _ _ _  _ _ _ hM (lv_sub hl [2, 1, 0] rfl) h
def rm_X7_minutes : Jvm.Room := { frames := 4, cells := 0, slots := 0, locals := 93 }
set_option maxHeartbeats 4000000 in
set_option maxRecDepth 100000 in
theorem c_X7_minutes (l : Launch) (E : xE) (B : Nat) {k : Nat} {x1 : Int32} {σ : xM} {q : Int32 × xM} (hk_k : kdY k = 7) (h : F_X7_minutes k x1 σ = some q) : Met l yX7_minutes (Cond.code yX7_minutes cX7_minutes 4 (some .int) :: AL) rm_X7_minutes (xP E B 7 (layY E B) [.ref (B + k), .int x1] σ) (xQ E B 7 (layY E B) (some (.int q.1)) q.2) 0 0 (wA B 7) := by
  refine x_met (plainFor_of_name (by decide +kernel)) (Nat.le_of_ble_eq_true rfl) rfl ?_
  intro p e s m below meth c ls CX hr hlk hM hl
  have hx := CX.1.1
  have hb := CX.1.2.1
  unfold F_X7_minutes at h
  have L4 : ∀ (N : Nat) (v1 : Int32) (v2 : Int32) (v3 : Int32) (σ : xM), ∀ (H : Heap) (locs : List Loc) (ls : Array Slot), xS E B 7 (layY E B) s σ H locs → lv_has ls 4 [(0, .ref (B + k)), (1, .int v1), (2, .int v2), (3, .int v3)] → F_X7_minutes_L4 k N v1 v2 v3 σ = some q → W p l e rm_X7_minutes s m ([.ref (B + k), .int x1] : List Value).toArray below meth c H locs 0 0 (MQ below (xQ E B 7 (layY E B) (some (.int q.1)) q.2) ([.ref (B + k), .int x1] : List Value).toArray s 0 0 (wA B 7)) (F0 m 4 ls []) := by
    clear hM hl h
    intro N
    induction N with
    | zero =>
      intro v1 v2 v3 σ  H locs ls hM hl h
      cases h
    | succ N ih =>
      intro v1 v2 v3 σ  H locs ls hM hl h
      rw [F_X7_minutes_L4] at h
      refine lv_iload_n hx hb dX7_minutes_4 rfl (lv_at hl 3 rfl) ?_
      refine lv_iload_n hx hb dX7_minutes_5 rfl (lv_at hl 1 rfl) ?_
      refine lv_icmp_ge (tgt := 22) hx hb dX7_minutes_6 (by decide) (fun c1 => ?_) (fun c1 => ?_)
      · replace h := it_h c1 h
        refine lv_iload_n hx hb dX7_minutes_22 rfl (lv_at hl 2 rfl) ?_
        obtain rfl := Option.some.inj h
        exact x_iret CX hr hlk hM rfl dX7_minutes_23
      · replace h := if_h c1 h
        refine lv_iload_n hx hb dX7_minutes_9 rfl (lv_at hl 2 rfl) ?_
        refine lv_aload_n hx hb dX7_minutes_10 rfl (lv_at hl 0 rfl) ?_
        obtain ⟨q2, eq2, h⟩ := bd_h h
        refine x_callV (As := []) CX hM (kdYl hk_k rfl) (ly7 hk_k _) rfl lk_X7_132 (c_X7_minute l E B hk_k eq2) ⟨rfl, rfl, by decide, by decide⟩ rfl hl.1 rfl (Nat.le_of_ble_eq_true rfl) dX7_minutes_11 (fun H locs hM => ?_)
        refine W.eq (g2 := F0 m 14 ls [.int q2.1, .int v2]) rfl ?_
        refine lv_iadd hx hb dX7_minutes_14 ?_
        refine lv_topi (fun x2_3 ex2_3 => ?_)
        replace h := nm_h ex2_3 h
        refine lv_istore_n (lv' := [(2, .int x2_3), (0, .ref (B + k)), (1, .int v1), (3, .int v3)]) hx hb dX7_minutes_15 rfl hl (by decide) rfl (fun ls hl => ?_)
        refine lv_iinc (v := (v3 + 1)) (lv' := [(3, .int (v3 + 1)), (2, .int x2_3), (0, .ref (B + k)), (1, .int v1)]) hx hb dX7_minutes_16 hl (k := 3) rfl rfl (by decide) rfl (fun ls hl => ?_)
        refine lv_goto (tgt := 4) hx hb dX7_minutes_19 (by decide) ?_
        exact ih _ _ _ _  _ _ _ hM (lv_sub hl [2, 3, 1, 0] rfl) h
  refine lv_iconst (v := 0) hx hb dX7_minutes_0 (by decide) ?_
  refine lv_istore_n (lv' := [(2, .int 0), (0, .ref (B + k)), (1, .int x1)]) hx hb dX7_minutes_1 rfl hl (by decide) rfl (fun ls hl => ?_)
  refine lv_iconst (v := 0) hx hb dX7_minutes_2 (by decide) ?_
  refine lv_istore_n (lv' := [(3, .int 0), (2, .int 0), (0, .ref (B + k)), (1, .int x1)]) hx hb dX7_minutes_3 rfl hl (by decide) rfl (fun ls hl => ?_)
  exact L4 _ _ _ _ _  _ _ _ hM (lv_sub hl [2, 3, 1, 0] rfl) h
def rm_X7_pass : Jvm.Room := { frames := 5, cells := 0, slots := 0, locals := 116 }
set_option maxHeartbeats 4000000 in
set_option maxRecDepth 100000 in
theorem c_X7_pass (l : Launch) (E : xE) (B : Nat) {k : Nat} {x1 : Int32} {σ : xM} {q : Int32 × xM} (hk_k : kdY k = 7) (h : F_X7_pass k x1 σ = some q) : Met l yX7_pass (Cond.code yX7_pass cX7_pass 2 (some .int) :: AL) rm_X7_pass (xP E B 7 (layY E B) [.ref (B + k), .int x1] σ) (xQ E B 7 (layY E B) (some (.int q.1)) q.2) 0 0 (wA B 7) := by
  refine x_met (plainFor_of_name (by decide +kernel)) (Nat.le_of_ble_eq_true rfl) rfl ?_
  intro p e s m below meth c ls CX hr hlk hM hl
  have hx := CX.1.1
  have hb := CX.1.2.1
  unfold F_X7_pass at h
  refine lv_iload_n hx hb dX7_pass_0 rfl (lv_at hl 1 rfl) ?_
  refine lv_iconst (v := 1) hx hb dX7_pass_1 (by decide) ?_
  refine lv_sipush (v := 500) hx hb dX7_pass_2 (by decide) ?_
  obtain ⟨q1, eq1, h⟩ := bd_h h
  refine x_callS (As := [.int x1, .int 1, .int 500]) CX hM lk_X7_35 (c_X7_in l E B  eq1) ⟨rfl, rfl, by decide, by decide⟩ rfl hl.1 rfl (Nat.le_of_ble_eq_true rfl) dX7_pass_5 (fun H locs hM => ?_)
  refine W.eq (g2 := F0 m 8 ls [.int (bz q1.1)]) rfl ?_
  refine lv_if_ne (tgt := 14) hx hb dX7_pass_8 (by decide) (fun c2 => ?_) (fun c2 => ?_)
  · replace h := if_h c2 h
    refine lv_aload_n hx hb dX7_pass_14 rfl (lv_at hl 0 rfl) ?_
    refine g7_0 CX hM hk_k wf_X7_7 dX7_pass_15 ?_
    refine lv_bipush (v := 7) hx hb dX7_pass_18 (by decide) ?_
    obtain ⟨g3, h⟩ := ck_h h
    refine x_iald CX hM (kdYl (kd7_f hk_k).1 rfl) (ly20 (kd7_f hk_k).1 _) g3 dX7_pass_20 ?_
    refine lv_if_ne (tgt := 27) hx hb dX7_pass_21 (by decide) (fun c4 => ?_) (fun c4 => ?_)
    · replace h := if_h c4 h
      refine lv_aload_n hx hb dX7_pass_27 rfl (lv_at hl 0 rfl) ?_
      refine g7_0 CX hM hk_k wf_X7_7 dX7_pass_28 ?_
      refine lv_bipush (v := 8) hx hb dX7_pass_31 (by decide) ?_
      obtain ⟨g5, h⟩ := ck_h h
      refine x_iald CX hM (kdYl (kd7_f hk_k).1 rfl) (ly20 (kd7_f hk_k).1 _) g5 dX7_pass_33 ?_
      refine lv_iload_n hx hb dX7_pass_34 rfl (lv_at hl 1 rfl) ?_
      refine lv_iadd hx hb dX7_pass_35 ?_
      refine lv_sipush (v := 20000) hx hb dX7_pass_36 (by decide) ?_
      refine lv_icmp_le (tgt := 45) hx hb dX7_pass_39 (by decide) (fun c6 => ?_) (fun c6 => ?_)
      · replace h := it_h c6 h
        refine lv_aload_n hx hb dX7_pass_45 rfl (lv_at hl 0 rfl) ?_
        obtain ⟨q7, eq7, h⟩ := bd_h h
        refine x_callV (As := []) CX hM (kdYl hk_k rfl) (ly7 hk_k _) rfl lk_X7_48 (c_X7_notes l E B hk_k eq7) ⟨rfl, rfl, by decide, by decide⟩ rfl hl.1 rfl (Nat.le_of_ble_eq_true rfl) dX7_pass_46 (fun H locs hM => ?_)
        refine W.eq (g2 := F0 m 49 ls []) rfl ?_
        refine lv_aload_n hx hb dX7_pass_49 rfl (lv_at hl 0 rfl) ?_
        refine lv_iload_n hx hb dX7_pass_50 rfl (lv_at hl 1 rfl) ?_
        obtain ⟨q8, eq8, h⟩ := bd_h h
        refine x_callV (As := [.int x1]) CX hM (kdYl hk_k rfl) (ly7 hk_k _) rfl lk_X7_135 (c_X7_minutes l E B hk_k eq8) ⟨rfl, rfl, by decide, by decide⟩ rfl hl.1 rfl (Nat.le_of_ble_eq_true rfl) dX7_pass_51 (fun H locs hM => ?_)
        refine W.eq (g2 := F0 m 54 ls [.int q8.1]) rfl ?_
        obtain rfl := Option.some.inj h
        exact x_iret CX hr hlk hM rfl dX7_pass_54
      · replace h := if_h c6 h
        refine lv_ldc (v := (-1000003)) hx hb CX.1.2.2.2.1 (x_hts CX wc_X7_47) dX7_pass_42 ?_
        obtain rfl := Option.some.inj h
        exact x_iret CX hr hlk hM rfl dX7_pass_44
    · replace h := it_h c4 h
      refine lv_ldc (v := (-1000002)) hx hb CX.1.2.2.2.1 (x_hts CX wc_X7_34) dX7_pass_24 ?_
      obtain rfl := Option.some.inj h
      exact x_iret CX hr hlk hM rfl dX7_pass_26
  · replace h := it_h c2 h
    refine lv_ldc (v := (-1000001)) hx hb CX.1.2.2.2.1 (x_hts CX wc_X7_46) dX7_pass_11 ?_
    obtain rfl := Option.some.inj h
    exact x_iret CX hr hlk hM rfl dX7_pass_13
