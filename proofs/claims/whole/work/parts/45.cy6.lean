def rm_X7_load : Jvm.Room := { frames := 3, cells := 0, slots := 0, locals := 74 }
set_option maxHeartbeats 4000000 in
set_option maxRecDepth 100000 in
theorem c_X7_load (l : Launch) (E : xE) (B : Nat) {k : Nat} {σ : xM} {q : Int32 × xM} (hk_k : kdY k = 7) (h : F_X7_load k σ = some q) : Met l yX7_load (Cond.code yX7_load cX7_load 2 (some .int) :: AL) rm_X7_load (xP E B 7 (layY E B) [.ref (B + k)] σ) (xQ E B 7 (layY E B) (some (.int q.1)) q.2) 0 0 (wA B 7) := by
  refine x_met (plainFor_of_name (by decide +kernel)) (Nat.le_of_ble_eq_true rfl) rfl ?_
  intro p e s m below meth c ls CX hr hlk hM hl
  have hx := CX.1.1
  have hb := CX.1.2.1
  unfold F_X7_load at h
  have L32 : ∀ (N : Nat) (v1 : Int32) (σ : xM), ∀ (H : Heap) (locs : List Loc) (ls : Array Slot), xS E B 7 (layY E B) s σ H locs → lv_has ls 2 [(0, .ref (B + k)), (1, .int v1)] → F_X7_load_L32 k N v1 σ = some q → W p l e rm_X7_load s m ([.ref (B + k)] : List Value).toArray below meth c H locs 0 0 (MQ below (xQ E B 7 (layY E B) (some (.int q.1)) q.2) ([.ref (B + k)] : List Value).toArray s 0 0 (wA B 7)) (F0 m 32 ls []) := by
    clear hM hl h
    intro N
    induction N with
    | zero =>
      intro v1 σ  H locs ls hM hl h
      cases h
    | succ N ih =>
      intro v1 σ  H locs ls hM hl h
      rw [F_X7_load_L32] at h
      refine lv_iload_n hx hb dX7_load_32 rfl (lv_at hl 1 rfl) ?_
      refine lv_bipush (v := 24) hx hb dX7_load_33 (by decide) ?_
      refine lv_icmp_ge (tgt := 73) hx hb dX7_load_35 (by decide) (fun c6 => ?_) (fun c6 => ?_)
      · replace h := it_h c6 h
        refine lv_aload_n hx hb dX7_load_73 rfl (lv_at hl 0 rfl) ?_
        refine lv_iconst (v := 0) hx hb dX7_load_74 (by decide) ?_
        refine p7_4 (y := 0) CX hM hk_k wf_X7_90 dX7_load_75 (fun H locs σ7 eσ7 hM => ?_)
        replace h := nm_h eσ7 h
        refine lv_aload_n hx hb dX7_load_78 rfl (lv_at hl 0 rfl) ?_
        refine g7_7 CX hM hk_k wf_X7_104 dX7_load_79 ?_
        obtain rfl := Option.some.inj h
        exact x_iret CX hr hlk hM rfl dX7_load_82
      · replace h := if_h c6 h
        refine lv_aload_n hx hb dX7_load_38 rfl (lv_at hl 0 rfl) ?_
        refine g7_0 CX hM hk_k wf_X7_7 dX7_load_39 ?_
        refine lv_bipush (v := 10) hx hb dX7_load_42 (by decide) ?_
        refine lv_iload_n hx hb dX7_load_44 rfl (lv_at hl 1 rfl) ?_
        refine lv_iadd hx hb dX7_load_45 ?_
        refine lv_iload_n hx hb dX7_load_46 rfl (lv_at hl 1 rfl) ?_
        refine lv_iconst (v := 2) hx hb dX7_load_47 (by decide) ?_
        refine lv_aload_n hx hb dX7_load_48 rfl (lv_at hl 0 rfl) ?_
        refine g7_7 CX hM hk_k wf_X7_104 dX7_load_49 ?_
        refine lv_imul hx hb dX7_load_52 ?_
        refine lv_icmp_ge (tgt := 65) hx hb dX7_load_53 (by decide) (fun c8 => ?_) (fun c8 => ?_)
        · replace h := it_h c8 h
          refine lv_iconst (v := 0) hx hb dX7_load_65 (by decide) ?_
          obtain ⟨g9, h⟩ := ck_h h
          refine x_iast CX hM (kdYl (kd7_f hk_k).1 rfl) (fun f => ly20 (kd7_f hk_k).1 f) g9 dX7_load_66 (fun H locs σ10 eσ10 hM => ?_)
          replace h := nm_h eσ10 h
          refine lv_iinc (v := (v1 + 1)) (lv' := [(1, .int (v1 + 1)), (0, .ref (B + k))]) hx hb dX7_load_67 hl (k := 1) rfl rfl (by decide) rfl (fun ls hl => ?_)
          refine lv_goto (tgt := 32) hx hb dX7_load_70 (by decide) ?_
          exact ih _ _  _ _ _ hM (lv_sub hl [1, 0] rfl) h
        · replace h := if_h c8 h
          refine lv_aload_n hx hb dX7_load_56 rfl (lv_at hl 0 rfl) ?_
          refine g7_6 CX hM hk_k wf_X7_23 dX7_load_57 ?_
          refine lv_iload_n hx hb dX7_load_60 rfl (lv_at hl 1 rfl) ?_
          obtain ⟨g11, h⟩ := ck_h h
          refine x_iald CX hM (kdYl (kd7_f hk_k).2.2.2.2.1 rfl) (ly24 (kd7_f hk_k).2.2.2.2.1 _) g11 dX7_load_61 ?_
          refine lv_goto (tgt := 66) hx hb dX7_load_62 (by decide) ?_
          obtain ⟨g12, h⟩ := ck_h h
          refine x_iast CX hM (kdYl (kd7_f hk_k).1 rfl) (fun f => ly20 (kd7_f hk_k).1 f) g12 dX7_load_66 (fun H locs σ13 eσ13 hM => ?_)
          replace h := nm_h eσ13 h
          refine lv_iinc (v := (v1 + 1)) (lv' := [(1, .int (v1 + 1)), (0, .ref (B + k))]) hx hb dX7_load_67 hl (k := 1) rfl rfl (by decide) rfl (fun ls hl => ?_)
          refine lv_goto (tgt := 32) hx hb dX7_load_70 (by decide) ?_
          exact ih _ _  _ _ _ hM (lv_sub hl [1, 0] rfl) h
  refine lv_aload_n hx hb dX7_load_0 rfl (lv_at hl 0 rfl) ?_
  obtain ⟨q1, eq1, h⟩ := bd_h h
  refine x_callV (As := []) CX hM (kdYl hk_k rfl) (ly7 hk_k _) rfl lk_X7_111 (c_X7_readsAll l E B hk_k eq1) ⟨rfl, rfl, by decide, by decide⟩ rfl hl.1 rfl (Nat.le_of_ble_eq_true rfl) dX7_load_1 (fun H locs hM => ?_)
  refine W.eq (g2 := F0 m 4 ls [.int (bz q1.1)]) rfl ?_
  refine lv_if_ne (tgt := 15) hx hb dX7_load_4 (by decide) (fun c2 => ?_) (fun c2 => ?_)
  · replace h := if_h c2 h
    refine lv_aload_n hx hb dX7_load_15 rfl (lv_at hl 0 rfl) ?_
    obtain ⟨q3, eq3, h⟩ := bd_h h
    refine x_callV (As := []) CX hM (kdYl hk_k rfl) (ly7 hk_k _) rfl lk_X7_48 (c_X7_notes l E B hk_k eq3) ⟨rfl, rfl, by decide, by decide⟩ rfl hl.1 rfl (Nat.le_of_ble_eq_true rfl) dX7_load_16 (fun H locs hM => ?_)
    refine W.eq (g2 := F0 m 19 ls []) rfl ?_
    refine lv_aload_n hx hb dX7_load_19 rfl (lv_at hl 0 rfl) ?_
    refine g7_0 CX hM hk_k wf_X7_7 dX7_load_20 ?_
    refine lv_bipush (v := 9) hx hb dX7_load_23 (by decide) ?_
    refine lv_aload_n hx hb dX7_load_25 rfl (lv_at hl 0 rfl) ?_
    refine g7_7 CX hM hk_k wf_X7_104 dX7_load_26 ?_
    obtain ⟨g4, h⟩ := ck_h h
    refine x_iast CX hM (kdYl (kd7_f hk_k).1 rfl) (fun f => ly20 (kd7_f hk_k).1 f) g4 dX7_load_29 (fun H locs σ5 eσ5 hM => ?_)
    replace h := nm_h eσ5 h
    refine lv_iconst (v := 0) hx hb dX7_load_30 (by decide) ?_
    refine lv_istore_n (lv' := [(1, .int 0), (0, .ref (B + k))]) hx hb dX7_load_31 rfl hl (by decide) rfl (fun ls hl => ?_)
    exact L32 _ _ _  _ _ _ hM (lv_sub hl [1, 0] rfl) h
  · replace h := it_h c2 h
    refine lv_bipush (v := (-10)) hx hb dX7_load_7 (by decide) ?_
    refine lv_aload_n hx hb dX7_load_9 rfl (lv_at hl 0 rfl) ?_
    refine g7_8 CX hM hk_k wf_X7_93 dX7_load_10 ?_
    refine lv_isub hx hb dX7_load_13 ?_
    obtain rfl := Option.some.inj h
    exact x_iret CX hr hlk hM rfl dX7_load_14
def rm_X7_air : Jvm.Room := { frames := 0, cells := 0, slots := 0, locals := 0 }
set_option maxHeartbeats 4000000 in
set_option maxRecDepth 100000 in
theorem c_X7_air (l : Launch) (E : xE) (B : Nat) {k : Nat} {x1 : Int32} {σ : xM} {q : Int32 × xM} (hk_k : kdY k = 7) (h : F_X7_air k x1 σ = some q) : Met l yX7_air (Cond.code yX7_air cX7_air 5 (some .int) :: AL) rm_X7_air (xP E B 7 (layY E B) [.ref (B + k), .int x1] σ) (xQ E B 7 (layY E B) (some (.int q.1)) q.2) 0 0 (wA B 7) := by
  refine x_met (plainFor_of_name (by decide +kernel)) (Nat.le_of_ble_eq_true rfl) rfl ?_
  intro p e s m below meth c ls CX hr hlk hM hl
  have hx := CX.1.1
  have hb := CX.1.2.1
  unfold F_X7_air at h
  have J51 : ∀ (v2 : Int32) (v3 : Int32) (σ : xM), ∀ (H : Heap) (locs : List Loc) (ls : Array Slot), xS E B 7 (layY E B) s σ H locs → lv_has ls 5 [(0, .ref (B + k)), (2, .int v2), (3, .int v3)] → F_X7_air_J51 k v2 v3 σ = some q → W p l e rm_X7_air s m ([.ref (B + k), .int x1] : List Value).toArray below meth c H locs 0 0 (MQ below (xQ E B 7 (layY E B) (some (.int q.1)) q.2) ([.ref (B + k), .int x1] : List Value).toArray s 0 0 (wA B 7)) (F0 m 51 ls []) := by
    clear hM hl h
    intro v2 v3 σ  H locs ls hM hl h
    unfold F_X7_air_J51 at h
    refine lv_sipush (v := 1000) hx hb dX7_air_51 (by decide) ?_
    refine lv_aload_n hx hb dX7_air_54 rfl (lv_at hl 0 rfl) ?_
    refine g7_0 CX hM hk_k wf_X7_7 dX7_air_55 ?_
    refine lv_bipush (v := 10) hx hb dX7_air_58 (by decide) ?_
    refine lv_iconst (v := 2) hx hb dX7_air_60 (by decide) ?_
    refine lv_iload_n hx hb dX7_air_61 rfl (lv_at hl 2 rfl) ?_
    refine lv_if_ne (tgt := 69) hx hb dX7_air_62 (by decide) (fun c6 => ?_) (fun c6 => ?_)
    · replace h := if_h c6 h
      refine lv_iload_n hx hb dX7_air_69 rfl (lv_at hl 1 rfl) ?_
      refine lv_iconst (v := 1) hx hb dX7_air_70 (by decide) ?_
      refine lv_isub hx hb dX7_air_71 ?_
      refine lv_imul hx hb dX7_air_72 ?_
      refine lv_iadd hx hb dX7_air_73 ?_
      refine lv_iconst (v := 1) hx hb dX7_air_74 (by decide) ?_
      refine lv_iadd hx hb dX7_air_75 ?_
      obtain ⟨g7, h⟩ := ck_h h
      refine x_iald CX hM (kdYl (kd7_f hk_k).1 rfl) (ly20 (kd7_f hk_k).1 _) g7 dX7_air_76 ?_
      refine lv_imul hx hb dX7_air_77 ?_
      obtain rfl := Option.some.inj h
      exact x_iret CX hr hlk hM rfl dX7_air_78
    · replace h := it_h c6 h
      refine lv_iconst (v := 0) hx hb dX7_air_65 (by decide) ?_
      refine lv_goto (tgt := 72) hx hb dX7_air_66 (by decide) ?_
      refine lv_imul hx hb dX7_air_72 ?_
      refine lv_iadd hx hb dX7_air_73 ?_
      refine lv_iconst (v := 1) hx hb dX7_air_74 (by decide) ?_
      refine lv_iadd hx hb dX7_air_75 ?_
      obtain ⟨g8, h⟩ := ck_h h
      refine x_iald CX hM (kdYl (kd7_f hk_k).1 rfl) (ly20 (kd7_f hk_k).1 _) g8 dX7_air_76 ?_
      refine lv_imul hx hb dX7_air_77 ?_
      obtain rfl := Option.some.inj h
      exact x_iret CX hr hlk hM rfl dX7_air_78
  have J36 : ∀ (v1 : Int32) (v2 : Int32) (v3 : Int32) (σ : xM), ∀ (H : Heap) (locs : List Loc) (ls : Array Slot), xS E B 7 (layY E B) s σ H locs → lv_has ls 5 [(0, .ref (B + k)), (1, .int v1), (2, .int v2), (3, .int v3)] → F_X7_air_J36 k v1 v2 v3 σ = some q → W p l e rm_X7_air s m ([.ref (B + k), .int x1] : List Value).toArray below meth c H locs 0 0 (MQ below (xQ E B 7 (layY E B) (some (.int q.1)) q.2) ([.ref (B + k), .int x1] : List Value).toArray s 0 0 (wA B 7)) (F0 m 36 ls []) := by
    clear hM hl h
    intro v1 v2 v3 σ  H locs ls hM hl h
    unfold F_X7_air_J36 at h
    refine lv_iload_n hx hb dX7_air_36 rfl (lv_at hl 2 rfl) ?_
    refine lv_if_ne (tgt := 42) hx hb dX7_air_37 (by decide) (fun c4 => ?_) (fun c4 => ?_)
    · replace h := if_h c4 h
      refine lv_iload_n hx hb dX7_air_42 rfl (lv_at hl 3 rfl) ?_
      refine lv_if_eq (tgt := 51) hx hb dX7_air_43 (by decide) (fun c5 => ?_) (fun c5 => ?_)
      · replace h := it_h c5 h
        exact J51 _ _ _  _ _ _ hM (lv_sub hl [0, 2, 3] rfl) h
      · replace h := if_h c5 h
        refine lv_iload_n hx hb dX7_air_46 rfl (lv_at hl 3 rfl) ?_
        refine lv_iload_n hx hb dX7_air_47 rfl (lv_at hl 2 rfl) ?_
        refine lv_icmp_ne (tgt := 79) hx hb dX7_air_48 (by decide) (fun c9 => ?_) (fun c9 => ?_)
        · replace h := if_h c9 h
          refine lv_bipush (v := 10) hx hb dX7_air_79 (by decide) ?_
          refine lv_iconst (v := 2) hx hb dX7_air_81 (by decide) ?_
          refine lv_iload_n hx hb dX7_air_82 rfl (lv_at hl 3 rfl) ?_
          refine lv_imul hx hb dX7_air_83 ?_
          refine lv_iadd hx hb dX7_air_84 ?_
          refine lv_iconst (v := 2) hx hb dX7_air_85 (by decide) ?_
          refine lv_isub hx hb dX7_air_86 ?_
          refine lv_topi (fun x4_10 ex4_10 => ?_)
          replace h := nm_h ex4_10 h
          refine lv_istore (lv' := [(4, .int x4_10), (0, .ref (B + k)), (1, .int v1), (2, .int v2), (3, .int v3)]) hx hb dX7_air_87 hl (by decide) rfl (fun ls hl => ?_)
          refine lv_sipush (v := 1000) hx hb dX7_air_89 (by decide) ?_
          refine lv_aload_n hx hb dX7_air_92 rfl (lv_at hl 1 rfl) ?_
          refine g7_0 CX hM hk_k wf_X7_7 dX7_air_93 ?_
          refine lv_iload hx hb dX7_air_96 (lv_at hl 0 rfl) ?_
          refine lv_iconst (v := 1) hx hb dX7_air_98 (by decide) ?_
          refine lv_iadd hx hb dX7_air_99 ?_
          obtain ⟨g11, h⟩ := ck_h h
          refine x_iald CX hM (kdYl (kd7_f hk_k).1 rfl) (ly20 (kd7_f hk_k).1 _) g11 dX7_air_100 ?_
          refine lv_imul hx hb dX7_air_101 ?_
          refine lv_sipush (v := 1000) hx hb dX7_air_102 (by decide) ?_
          refine lv_aload_n hx hb dX7_air_105 rfl (lv_at hl 1 rfl) ?_
          refine g7_0 CX hM hk_k wf_X7_7 dX7_air_106 ?_
          refine lv_iload hx hb dX7_air_109 (lv_at hl 0 rfl) ?_
          refine lv_iconst (v := 3) hx hb dX7_air_111 (by decide) ?_
          refine lv_iadd hx hb dX7_air_112 ?_
          obtain ⟨g12, h⟩ := ck_h h
          refine x_iald CX hM (kdYl (kd7_f hk_k).1 rfl) (ly20 (kd7_f hk_k).1 _) g12 dX7_air_113 ?_
          refine lv_aload_n hx hb dX7_air_114 rfl (lv_at hl 1 rfl) ?_
          refine g7_0 CX hM hk_k wf_X7_7 dX7_air_115 ?_
          refine lv_iload hx hb dX7_air_118 (lv_at hl 0 rfl) ?_
          refine lv_iconst (v := 1) hx hb dX7_air_120 (by decide) ?_
          refine lv_iadd hx hb dX7_air_121 ?_
          obtain ⟨g13, h⟩ := ck_h h
          refine x_iald CX hM (kdYl (kd7_f hk_k).1 rfl) (ly20 (kd7_f hk_k).1 _) g13 dX7_air_122 ?_
          refine lv_isub hx hb dX7_air_123 ?_
          refine lv_imul hx hb dX7_air_124 ?_
          refine lv_iload_n hx hb dX7_air_125 rfl (lv_at hl 2 rfl) ?_
          refine lv_aload_n hx hb dX7_air_126 rfl (lv_at hl 1 rfl) ?_
          refine g7_0 CX hM hk_k wf_X7_7 dX7_air_127 ?_
          refine lv_iload hx hb dX7_air_130 (lv_at hl 0 rfl) ?_
          obtain ⟨g14, h⟩ := ck_h h
          refine x_iald CX hM (kdYl (kd7_f hk_k).1 rfl) (ly20 (kd7_f hk_k).1 _) g14 dX7_air_132 ?_
          refine lv_isub hx hb dX7_air_133 ?_
          refine lv_imul hx hb dX7_air_134 ?_
          refine lv_aload_n hx hb dX7_air_135 rfl (lv_at hl 1 rfl) ?_
          refine g7_0 CX hM hk_k wf_X7_7 dX7_air_136 ?_
          refine lv_iload hx hb dX7_air_139 (lv_at hl 0 rfl) ?_
          refine lv_iconst (v := 2) hx hb dX7_air_141 (by decide) ?_
          refine lv_iadd hx hb dX7_air_142 ?_
          obtain ⟨g15, h⟩ := ck_h h
          refine x_iald CX hM (kdYl (kd7_f hk_k).1 rfl) (ly20 (kd7_f hk_k).1 _) g15 dX7_air_143 ?_
          refine lv_aload_n hx hb dX7_air_144 rfl (lv_at hl 1 rfl) ?_
          refine g7_0 CX hM hk_k wf_X7_7 dX7_air_145 ?_
          refine lv_iload hx hb dX7_air_148 (lv_at hl 0 rfl) ?_
          obtain ⟨g16, h⟩ := ck_h h
          refine x_iald CX hM (kdYl (kd7_f hk_k).1 rfl) (ly20 (kd7_f hk_k).1 _) g16 dX7_air_150 ?_
          refine lv_isub hx hb dX7_air_151 ?_
          obtain ⟨g17, h⟩ := nz_h h
          refine lv_idiv hx hb dX7_air_152 g17 ?_
          refine lv_iadd hx hb dX7_air_153 ?_
          obtain rfl := Option.some.inj h
          exact x_iret CX hr hlk hM rfl dX7_air_154
        · replace h := it_h c9 h
          exact J51 _ _ _  _ _ _ hM (lv_sub hl [0, 2, 3] rfl) h
    · replace h := it_h c4 h
      refine lv_iconst (v := 0) hx hb dX7_air_40 (by decide) ?_
      obtain rfl := Option.some.inj h
      exact x_iret CX hr hlk hM rfl dX7_air_41
  have L10 : ∀ (N : Nat) (v1 : Int32) (v2 : Int32) (v3 : Int32) (σ : xM), ∀ (H : Heap) (locs : List Loc) (ls : Array Slot), xS E B 7 (layY E B) s σ H locs → lv_has ls 5 [(0, .ref (B + k)), (1, .int v1), (2, .int v2), (3, .int v3)] → F_X7_air_L10 k N v1 v2 v3 σ = some q → W p l e rm_X7_air s m ([.ref (B + k), .int x1] : List Value).toArray below meth c H locs 0 0 (MQ below (xQ E B 7 (layY E B) (some (.int q.1)) q.2) ([.ref (B + k), .int x1] : List Value).toArray s 0 0 (wA B 7)) (F0 m 10 ls []) := by
    clear hM hl h
    intro N
    induction N with
    | zero =>
      intro v1 v2 v3 σ  H locs ls hM hl h
      cases h
    | succ N ih =>
      intro v1 v2 v3 σ  H locs ls hM hl h
      rw [F_X7_air_L10] at h
      refine lv_iload_n hx hb dX7_air_10 rfl (lv_at hl 3 rfl) ?_
      refine lv_iload_n hx hb dX7_air_11 rfl (lv_at hl 2 rfl) ?_
      refine lv_icmp_ge (tgt := 36) hx hb dX7_air_12 (by decide) (fun c3 => ?_) (fun c3 => ?_)
      · replace h := it_h c3 h
        exact J36 _ _ _ _  _ _ _ hM (lv_sub hl [0, 1, 2, 3] rfl) h
      · replace h := if_h c3 h
        refine lv_aload_n hx hb dX7_air_15 rfl (lv_at hl 0 rfl) ?_
        refine g7_0 CX hM hk_k wf_X7_7 dX7_air_16 ?_
        refine lv_bipush (v := 10) hx hb dX7_air_19 (by decide) ?_
        refine lv_iconst (v := 2) hx hb dX7_air_21 (by decide) ?_
        refine lv_iload_n hx hb dX7_air_22 rfl (lv_at hl 3 rfl) ?_
        refine lv_imul hx hb dX7_air_23 ?_
        refine lv_iadd hx hb dX7_air_24 ?_
        obtain ⟨g18, h⟩ := ck_h h
        refine x_iald CX hM (kdYl (kd7_f hk_k).1 rfl) (ly20 (kd7_f hk_k).1 _) g18 dX7_air_25 ?_
        refine lv_iload_n hx hb dX7_air_26 rfl (lv_at hl 1 rfl) ?_
        refine lv_icmp_gt (tgt := 36) hx hb dX7_air_27 (by decide) (fun c19 => ?_) (fun c19 => ?_)
        · replace h := it_h c19 h
          exact J36 _ _ _ _  _ _ _ hM (lv_sub hl [0, 1, 2, 3] rfl) h
        · replace h := if_h c19 h
          refine lv_iinc (v := (v3 + 1)) (lv' := [(3, .int (v3 + 1)), (0, .ref (B + k)), (1, .int v1), (2, .int v2)]) hx hb dX7_air_30 hl (k := 3) rfl rfl (by decide) rfl (fun ls hl => ?_)
          refine lv_goto (tgt := 10) hx hb dX7_air_33 (by decide) ?_
          exact ih _ _ _ _  _ _ _ hM (lv_sub hl [1, 2, 3, 0] rfl) h
  refine lv_aload_n hx hb dX7_air_0 rfl (lv_at hl 0 rfl) ?_
  refine g7_0 CX hM hk_k wf_X7_7 dX7_air_1 ?_
  refine lv_bipush (v := 9) hx hb dX7_air_4 (by decide) ?_
  obtain ⟨g1, h⟩ := ck_h h
  refine x_iald CX hM (kdYl (kd7_f hk_k).1 rfl) (ly20 (kd7_f hk_k).1 _) g1 dX7_air_6 ?_
  refine lv_topi (fun x2_2 ex2_2 => ?_)
  replace h := nm_h ex2_2 h
  refine lv_istore_n (lv' := [(2, .int x2_2), (0, .ref (B + k)), (1, .int x1)]) hx hb dX7_air_7 rfl hl (by decide) rfl (fun ls hl => ?_)
  refine lv_iconst (v := 0) hx hb dX7_air_8 (by decide) ?_
  refine lv_istore_n (lv' := [(3, .int 0), (2, .int x2_2), (0, .ref (B + k)), (1, .int x1)]) hx hb dX7_air_9 rfl hl (by decide) rfl (fun ls hl => ?_)
  exact L10 _ _ _ _ _  _ _ _ hM (lv_sub hl [2, 3, 1, 0] rfl) h
def rm_X7_outside : Jvm.Room := { frames := 1, cells := 0, slots := 0, locals := 24 }
set_option maxHeartbeats 4000000 in
set_option maxRecDepth 100000 in
theorem c_X7_outside (l : Launch) (E : xE) (B : Nat) {k : Nat} {x1 : Int32} {σ : xM} {q : Int32 × xM} (hk_k : kdY k = 7) (h : F_X7_outside k x1 σ = some q) : Met l yX7_outside (Cond.code yX7_outside cX7_outside 2 (some .int) :: AL) rm_X7_outside (xP E B 7 (layY E B) [.ref (B + k), .int x1] σ) (xQ E B 7 (layY E B) (some (.int q.1)) q.2) 0 0 (wA B 7) := by
  refine x_met (plainFor_of_name (by decide +kernel)) (Nat.le_of_ble_eq_true rfl) rfl ?_
  intro p e s m below meth c ls CX hr hlk hM hl
  have hx := CX.1.1
  have hb := CX.1.2.1
  unfold F_X7_outside at h
  refine lv_iload_n hx hb dX7_outside_0 rfl (lv_at hl 1 rfl) ?_
  refine lv_iconst (v := 0) hx hb dX7_outside_1 (by decide) ?_
  refine lv_sipush (v := 20000) hx hb dX7_outside_2 (by decide) ?_
  obtain ⟨q1, eq1, h⟩ := bd_h h
  refine x_callS (As := [.int x1, .int 0, .int 20000]) CX hM lk_X7_35 (c_X7_in l E B  eq1) ⟨rfl, rfl, by decide, by decide⟩ rfl hl.1 rfl (Nat.le_of_ble_eq_true rfl) dX7_outside_5 (fun H locs hM => ?_)
  refine W.eq (g2 := F0 m 8 ls [.int (bz q1.1)]) rfl ?_
  refine lv_if_eq (tgt := 19) hx hb dX7_outside_8 (by decide) (fun c2 => ?_) (fun c2 => ?_)
  · replace h := it_h c2 h
    refine lv_ldc (v := (-1000001)) hx hb CX.1.2.2.2.1 (x_hts CX wc_X7_46) dX7_outside_19 ?_
    obtain rfl := Option.some.inj h
    exact x_iret CX hr hlk hM rfl dX7_outside_21
  · replace h := if_h c2 h
    refine lv_aload_n hx hb dX7_outside_11 rfl (lv_at hl 0 rfl) ?_
    refine lv_iload_n hx hb dX7_outside_12 rfl (lv_at hl 1 rfl) ?_
    obtain ⟨q3, eq3, h⟩ := bd_h h
    refine x_callV (As := [.int x1]) CX hM (kdYl hk_k rfl) (ly7 hk_k _) rfl lk_X7_115 (c_X7_air l E B hk_k eq3) ⟨rfl, rfl, by decide, by decide⟩ rfl hl.1 rfl (Nat.le_of_ble_eq_true rfl) dX7_outside_13 (fun H locs hM => ?_)
    refine W.eq (g2 := F0 m 16 ls [.int q3.1]) rfl ?_
    refine lv_goto (tgt := 21) hx hb dX7_outside_16 (by decide) ?_
    obtain rfl := Option.some.inj h
    exact x_iret CX hr hlk hM rfl dX7_outside_21
def rm_X7_flows : Jvm.Room := { frames := 1, cells := 0, slots := 0, locals := 23 }
set_option maxHeartbeats 4000000 in
set_option maxRecDepth 100000 in
theorem c_X7_flows (l : Launch) (E : xE) (B : Nat) {k : Nat} {x1 : Int32} {x2 : Int32} {σ : xM} {q : Unit × xM} (hk_k : kdY k = 7) (h : F_X7_flows k x1 x2 σ = some q) : Met l yX7_flows (Cond.code yX7_flows cX7_flows 7 none :: AL) rm_X7_flows (xP E B 7 (layY E B) [.ref (B + k), .int x1, .int x2] σ) (xQ E B 7 (layY E B) none q.2) 0 0 (wA B 7) := by
  refine x_met (plainFor_of_name (by decide +kernel)) (Nat.le_of_ble_eq_true rfl) rfl ?_
  intro p e s m below meth c ls CX hr hlk hM hl
  have hx := CX.1.1
  have hb := CX.1.2.1
  unfold F_X7_flows at h
  have L59 : ∀ (N : Nat) (v1 : Int32) (v3 : Int32) (v4 : Int32) (v5 : Int32) (v6 : Int32) (σ : xM), ∀ (H : Heap) (locs : List Loc) (ls : Array Slot), xS E B 7 (layY E B) s σ H locs → lv_has ls 7 [(0, .ref (B + k)), (1, .int v1), (3, .int v3), (4, .int v4), (5, .int v5), (6, .int v6)] → F_X7_flows_L59 k N v1 v3 v4 v5 v6 σ = some q → W p l e rm_X7_flows s m ([.ref (B + k), .int x1, .int x2] : List Value).toArray below meth c H locs 0 0 (MQ below (xQ E B 7 (layY E B) none q.2) ([.ref (B + k), .int x1, .int x2] : List Value).toArray s 0 0 (wA B 7)) (F0 m 59 ls []) := by
    clear hM hl h
    intro N
    induction N with
    | zero =>
      intro v1 v3 v4 v5 v6 σ  H locs ls hM hl h
      cases h
    | succ N ih =>
      intro v1 v3 v4 v5 v6 σ  H locs ls hM hl h
      rw [F_X7_flows_L59] at h
      refine lv_iload hx hb dX7_flows_59 (lv_at hl 5 rfl) ?_
      refine lv_aload_n hx hb dX7_flows_61 rfl (lv_at hl 0 rfl) ?_
      refine g7_0 CX hM hk_k wf_X7_7 dX7_flows_62 ?_
      refine lv_bipush (v := 7) hx hb dX7_flows_65 (by decide) ?_
      obtain ⟨g6, h⟩ := ck_h h
      refine x_iald CX hM (kdYl (kd7_f hk_k).1 rfl) (ly20 (kd7_f hk_k).1 _) g6 dX7_flows_67 ?_
      refine lv_icmp_ge (tgt := 116) hx hb dX7_flows_68 (by decide) (fun c7 => ?_) (fun c7 => ?_)
      · replace h := it_h c7 h
        refine lv_aload_n hx hb dX7_flows_116 rfl (lv_at hl 0 rfl) ?_
        refine lv_iload_n hx hb dX7_flows_117 rfl (lv_at hl 1 rfl) ?_
        refine lv_iconst (v := 1) hx hb dX7_flows_118 (by decide) ?_
        refine lv_iload_n hx hb dX7_flows_119 rfl (lv_at hl 2 rfl) ?_
        refine lv_iload hx hb dX7_flows_120 (lv_at hl 3 rfl) ?_
        refine lv_isub hx hb dX7_flows_122 ?_
        refine lv_iload hx hb dX7_flows_123 (lv_at hl 4 rfl) ?_
        refine lv_isub hx hb dX7_flows_125 ?_
        obtain ⟨q8, eq8, h⟩ := bd_h h
        refine x_callV (As := [.int v1, .int 1, .int ((v3 - v4) - v5)]) CX hM (kdYl hk_k rfl) (ly7 hk_k _) rfl lk_X7_81 (c_X7_grows l E B hk_k eq8) ⟨rfl, rfl, by decide, by decide⟩ rfl hl.1 rfl (Nat.le_of_ble_eq_true rfl) dX7_flows_126 (fun H locs hM => ?_)
        refine W.eq (g2 := F0 m 129 ls []) rfl ?_
        refine lv_aload_n hx hb dX7_flows_129 rfl (lv_at hl 0 rfl) ?_
        refine lv_iload_n hx hb dX7_flows_130 rfl (lv_at hl 1 rfl) ?_
        refine lv_bipush (v := 17) hx hb dX7_flows_131 (by decide) ?_
        refine lv_iload_n hx hb dX7_flows_133 rfl (lv_at hl 2 rfl) ?_
        obtain ⟨q9, eq9, h⟩ := bd_h h
        refine x_callV (As := [.int v1, .int 17, .int v3]) CX hM (kdYl hk_k rfl) (ly7 hk_k _) rfl lk_X7_81 (c_X7_grows l E B hk_k eq9) ⟨rfl, rfl, by decide, by decide⟩ rfl hl.1 rfl (Nat.le_of_ble_eq_true rfl) dX7_flows_134 (fun H locs hM => ?_)
        refine W.eq (g2 := F0 m 137 ls []) rfl ?_
        refine lv_aload_n hx hb dX7_flows_137 rfl (lv_at hl 0 rfl) ?_
        refine lv_iload_n hx hb dX7_flows_138 rfl (lv_at hl 1 rfl) ?_
        refine lv_bipush (v := 18) hx hb dX7_flows_139 (by decide) ?_
        refine lv_iload hx hb dX7_flows_141 (lv_at hl 3 rfl) ?_
        obtain ⟨q10, eq10, h⟩ := bd_h h
        refine x_callV (As := [.int v1, .int 18, .int v4]) CX hM (kdYl hk_k rfl) (ly7 hk_k _) rfl lk_X7_81 (c_X7_grows l E B hk_k eq10) ⟨rfl, rfl, by decide, by decide⟩ rfl hl.1 rfl (Nat.le_of_ble_eq_true rfl) dX7_flows_143 (fun H locs hM => ?_)
        refine W.eq (g2 := F0 m 146 ls []) rfl ?_
        refine lv_aload_n hx hb dX7_flows_146 rfl (lv_at hl 0 rfl) ?_
        refine lv_iload_n hx hb dX7_flows_147 rfl (lv_at hl 1 rfl) ?_
        refine lv_bipush (v := 19) hx hb dX7_flows_148 (by decide) ?_
        refine lv_iload hx hb dX7_flows_150 (lv_at hl 4 rfl) ?_
        obtain ⟨q11, eq11, h⟩ := bd_h h
        refine x_callV (As := [.int v1, .int 19, .int v5]) CX hM (kdYl hk_k rfl) (ly7 hk_k _) rfl lk_X7_81 (c_X7_grows l E B hk_k eq11) ⟨rfl, rfl, by decide, by decide⟩ rfl hl.1 rfl (Nat.le_of_ble_eq_true rfl) dX7_flows_152 (fun H locs hM => ?_)
        refine W.eq (g2 := F0 m 155 ls []) rfl ?_
        obtain rfl := Option.some.inj h
        exact x_vret CX hr hlk hM rfl dX7_flows_155
      · replace h := if_h c7 h
        refine lv_iload hx hb dX7_flows_71 (lv_at hl 4 rfl) ?_
        refine lv_aload_n hx hb dX7_flows_73 rfl (lv_at hl 0 rfl) ?_
        refine g7_0 CX hM hk_k wf_X7_7 dX7_flows_74 ?_
        refine lv_bipush (v := 34) hx hb dX7_flows_77 (by decide) ?_
        refine lv_bipush (v := 6) hx hb dX7_flows_79 (by decide) ?_
        refine lv_iload_n hx hb dX7_flows_81 rfl (lv_at hl 1 rfl) ?_
        refine lv_imul hx hb dX7_flows_82 ?_
        refine lv_iadd hx hb dX7_flows_83 ?_
        refine lv_iload hx hb dX7_flows_84 (lv_at hl 5 rfl) ?_
        refine lv_iadd hx hb dX7_flows_86 ?_
        obtain ⟨g12, h⟩ := ck_h h
        refine x_iald CX hM (kdYl (kd7_f hk_k).1 rfl) (ly20 (kd7_f hk_k).1 _) g12 dX7_flows_87 ?_
        refine lv_aload_n hx hb dX7_flows_88 rfl (lv_at hl 0 rfl) ?_
        refine g7_10 CX hM hk_k wf_X7_26 dX7_flows_89 ?_
        refine lv_iload_n hx hb dX7_flows_92 rfl (lv_at hl 1 rfl) ?_
        obtain ⟨g13, h⟩ := ck_h h
        refine x_iald CX hM (kdYl (kd7_f hk_k).2.2.2.2.2 rfl) (ly25 (kd7_f hk_k).2.2.2.2.2 _) g13 dX7_flows_93 ?_
        refine lv_aload_n hx hb dX7_flows_94 rfl (lv_at hl 0 rfl) ?_
        refine g7_10 CX hM hk_k wf_X7_26 dX7_flows_95 ?_
        refine lv_iload hx hb dX7_flows_98 (lv_at hl 5 rfl) ?_
        obtain ⟨g14, h⟩ := ck_h h
        refine x_iald CX hM (kdYl (kd7_f hk_k).2.2.2.2.2 rfl) (ly25 (kd7_f hk_k).2.2.2.2.2 _) g14 dX7_flows_100 ?_
        refine lv_isub hx hb dX7_flows_101 ?_
        refine lv_imul hx hb dX7_flows_102 ?_
        refine lv_sipush (v := 1000) hx hb dX7_flows_103 (by decide) ?_
        refine lv_idiv hx hb dX7_flows_106 (by decide) ?_
        refine lv_iadd hx hb dX7_flows_107 ?_
        refine lv_topi (fun x5_15 ex5_15 => ?_)
        replace h := nm_h ex5_15 h
        refine lv_istore (lv' := [(5, .int x5_15), (0, .ref (B + k)), (1, .int v1), (3, .int v3), (4, .int v4), (6, .int v6)]) hx hb dX7_flows_108 hl (by decide) rfl (fun ls hl => ?_)
        refine lv_iinc (v := (v6 + 1)) (lv' := [(6, .int (v6 + 1)), (5, .int x5_15), (0, .ref (B + k)), (1, .int v1), (3, .int v3), (4, .int v4)]) hx hb dX7_flows_110 hl (k := 5) rfl rfl (by decide) rfl (fun ls hl => ?_)
        refine lv_goto (tgt := 59) hx hb dX7_flows_113 (by decide) ?_
        exact ih _ _ _ _ _ _  _ _ _ hM (lv_sub hl [2, 3, 4, 5, 1, 0] rfl) h
  have J31 : ∀ (v1 : Int32) (v2 : Int32) (y0 : Int32) (σ : xM), ∀ (H : Heap) (locs : List Loc) (ls : Array Slot), xS E B 7 (layY E B) s σ H locs → lv_has ls 7 [(0, .ref (B + k)), (1, .int v1), (2, .int v2)] → F_X7_flows_J31 k v1 v2 y0 σ = some q → W p l e rm_X7_flows s m ([.ref (B + k), .int x1, .int x2] : List Value).toArray below meth c H locs 0 0 (MQ below (xQ E B 7 (layY E B) none q.2) ([.ref (B + k), .int x1, .int x2] : List Value).toArray s 0 0 (wA B 7)) (F0 m 31 ls [.int y0]) := by
    clear hM hl h
    intro v1 v2 y0 σ  H locs ls hM hl h
    unfold F_X7_flows_J31 at h
    refine lv_istore_n (lv' := [(3, .int y0), (0, .ref (B + k)), (1, .int v1), (2, .int v2)]) hx hb dX7_flows_31 rfl hl (by decide) rfl (fun ls hl => ?_)
    refine lv_aload_n hx hb dX7_flows_32 rfl (lv_at hl 1 rfl) ?_
    refine lv_iload_n hx hb dX7_flows_33 rfl (lv_at hl 2 rfl) ?_
    refine lv_iconst (v := 3) hx hb dX7_flows_34 (by decide) ?_
    obtain ⟨q3, eq3, h⟩ := bd_h h
    refine x_callV (As := [.int v1, .int 3]) CX hM (kdYl hk_k rfl) (ly7 hk_k _) rfl lk_X7_39 (c_X7_of l E B hk_k eq3) ⟨rfl, rfl, by decide, by decide⟩ rfl hl.1 rfl (Nat.le_of_ble_eq_true rfl) dX7_flows_35 (fun H locs hM => ?_)
    refine W.eq (g2 := F0 m 38 ls [.int q3.1]) rfl ?_
    refine lv_aload_n hx hb dX7_flows_38 rfl (lv_at hl 1 rfl) ?_
    refine g7_10 CX hM hk_k wf_X7_26 dX7_flows_39 ?_
    refine lv_iload_n hx hb dX7_flows_42 rfl (lv_at hl 2 rfl) ?_
    obtain ⟨g4, h⟩ := ck_h h
    refine x_iald CX hM (kdYl (kd7_f hk_k).2.2.2.2.2 rfl) (ly25 (kd7_f hk_k).2.2.2.2.2 _) g4 dX7_flows_43 ?_
    refine lv_iload_n hx hb dX7_flows_44 rfl (lv_at hl 3 rfl) ?_
    refine lv_isub hx hb dX7_flows_45 ?_
    refine lv_imul hx hb dX7_flows_46 ?_
    refine lv_sipush (v := 1000) hx hb dX7_flows_47 (by decide) ?_
    refine lv_idiv hx hb dX7_flows_50 (by decide) ?_
    refine lv_topi (fun x4_5 ex4_5 => ?_)
    replace h := nm_h ex4_5 h
    refine lv_istore (lv' := [(4, .int x4_5), (3, .int y0), (0, .ref (B + k)), (1, .int v1), (2, .int v2)]) hx hb dX7_flows_51 hl (by decide) rfl (fun ls hl => ?_)
    refine lv_iconst (v := 0) hx hb dX7_flows_53 (by decide) ?_
    refine lv_istore (lv' := [(5, .int 0), (4, .int x4_5), (3, .int y0), (0, .ref (B + k)), (1, .int v1), (2, .int v2)]) hx hb dX7_flows_54 hl (by decide) rfl (fun ls hl => ?_)
    refine lv_iconst (v := 0) hx hb dX7_flows_56 (by decide) ?_
    refine lv_istore (lv' := [(6, .int 0), (5, .int 0), (4, .int x4_5), (3, .int y0), (0, .ref (B + k)), (1, .int v1), (2, .int v2)]) hx hb dX7_flows_57 hl (by decide) rfl (fun ls hl => ?_)
    exact L59 _ _ _ _ _ _ _  _ _ _ hM (lv_sub hl [4, 5, 3, 2, 1, 0] rfl) h
  have J30 : ∀ (v1 : Int32) (v2 : Int32) (σ : xM), ∀ (H : Heap) (locs : List Loc) (ls : Array Slot), xS E B 7 (layY E B) s σ H locs → lv_has ls 7 [(0, .ref (B + k)), (1, .int v1), (2, .int v2)] → F_X7_flows_J30 k v1 v2 σ = some q → W p l e rm_X7_flows s m ([.ref (B + k), .int x1, .int x2] : List Value).toArray below meth c H locs 0 0 (MQ below (xQ E B 7 (layY E B) none q.2) ([.ref (B + k), .int x1, .int x2] : List Value).toArray s 0 0 (wA B 7)) (F0 m 30 ls []) := by
    clear hM hl h
    intro v1 v2 σ  H locs ls hM hl h
    unfold F_X7_flows_J30 at h
    refine lv_iconst (v := 0) hx hb dX7_flows_30 (by decide) ?_
    exact J31 _ _ _ _  _ _ _ hM (lv_sub hl [0, 1, 2] rfl) h
  refine lv_aload_n hx hb dX7_flows_0 rfl (lv_at hl 0 rfl) ?_
  refine lv_iload_n hx hb dX7_flows_1 rfl (lv_at hl 1 rfl) ?_
  refine lv_bipush (v := 7) hx hb dX7_flows_2 (by decide) ?_
  obtain ⟨q1, eq1, h⟩ := bd_h h
  refine x_callV (As := [.int x1, .int 7]) CX hM (kdYl hk_k rfl) (ly7 hk_k _) rfl lk_X7_39 (c_X7_of l E B hk_k eq1) ⟨rfl, rfl, by decide, by decide⟩ rfl hl.1 rfl (Nat.le_of_ble_eq_true rfl) dX7_flows_4 (fun H locs hM => ?_)
  refine W.eq (g2 := F0 m 7 ls [.int q1.1]) rfl ?_
  refine lv_iconst (v := 1) hx hb dX7_flows_7 (by decide) ?_
  refine lv_icmp_ne (tgt := 30) hx hb dX7_flows_8 (by decide) (fun c2 => ?_) (fun c2 => ?_)
  · replace h := if_h c2 h
    exact J30 _ _ _  _ _ _ hM (lv_sub hl [0, 1, 2] rfl) h
  · replace h := it_h c2 h
    refine lv_aload_n hx hb dX7_flows_11 rfl (lv_at hl 0 rfl) ?_
    refine lv_iload_n hx hb dX7_flows_12 rfl (lv_at hl 1 rfl) ?_
    refine lv_bipush (v := 14) hx hb dX7_flows_13 (by decide) ?_
    obtain ⟨q16, eq16, h⟩ := bd_h h
    refine x_callV (As := [.int x1, .int 14]) CX hM (kdYl hk_k rfl) (ly7 hk_k _) rfl lk_X7_39 (c_X7_of l E B hk_k eq16) ⟨rfl, rfl, by decide, by decide⟩ rfl hl.1 rfl (Nat.le_of_ble_eq_true rfl) dX7_flows_15 (fun H locs hM => ?_)
    refine W.eq (g2 := F0 m 18 ls [.int q16.1]) rfl ?_
    refine lv_if_ne (tgt := 30) hx hb dX7_flows_18 (by decide) (fun c17 => ?_) (fun c17 => ?_)
    · replace h := if_h c17 h
      exact J30 _ _ _  _ _ _ hM (lv_sub hl [0, 1, 2] rfl) h
    · replace h := it_h c17 h
      refine lv_aload_n hx hb dX7_flows_21 rfl (lv_at hl 0 rfl) ?_
      refine lv_iload_n hx hb dX7_flows_22 rfl (lv_at hl 1 rfl) ?_
      refine lv_iconst (v := 2) hx hb dX7_flows_23 (by decide) ?_
      obtain ⟨q18, eq18, h⟩ := bd_h h
      refine x_callV (As := [.int x1, .int 2]) CX hM (kdYl hk_k rfl) (ly7 hk_k _) rfl lk_X7_39 (c_X7_of l E B hk_k eq18) ⟨rfl, rfl, by decide, by decide⟩ rfl hl.1 rfl (Nat.le_of_ble_eq_true rfl) dX7_flows_24 (fun H locs hM => ?_)
      refine W.eq (g2 := F0 m 27 ls [.int q18.1]) rfl ?_
      refine lv_goto (tgt := 31) hx hb dX7_flows_27 (by decide) ?_
      exact J31 _ _ _ _  _ _ _ hM (lv_sub hl [0, 1, 2] rfl) h
def rm_X7_closes : Jvm.Room := { frames := 1, cells := 0, slots := 0, locals := 23 }
set_option maxHeartbeats 4000000 in
set_option maxRecDepth 100000 in
theorem c_X7_closes (l : Launch) (E : xE) (B : Nat) {k : Nat} {x1 : Int32} {σ : xM} {q : Unit × xM} (hk_k : kdY k = 7) (h : F_X7_closes k x1 σ = some q) : Met l yX7_closes (Cond.code yX7_closes cX7_closes 3 none :: AL) rm_X7_closes (xP E B 7 (layY E B) [.ref (B + k), .int x1] σ) (xQ E B 7 (layY E B) none q.2) 0 0 (wA B 7) := by
  refine x_met (plainFor_of_name (by decide +kernel)) (Nat.le_of_ble_eq_true rfl) rfl ?_
  intro p e s m below meth c ls CX hr hlk hM hl
  have hx := CX.1.1
  have hb := CX.1.2.1
  unfold F_X7_closes at h
  have J123 : ∀ (v1 : Int32) (y0 : Int32) (y1 : Int32) (y2 : Int32) (σ : xM), ∀ (H : Heap) (locs : List Loc) (ls : Array Slot), xS E B 7 (layY E B) s σ H locs → lv_has ls 3 [(0, .ref (B + k)), (1, .int v1)] → F_X7_closes_J123 k v1 y0 y1 y2 σ = some q → W p l e rm_X7_closes s m ([.ref (B + k), .int x1] : List Value).toArray below meth c H locs 0 0 (MQ below (xQ E B 7 (layY E B) none q.2) ([.ref (B + k), .int x1] : List Value).toArray s 0 0 (wA B 7)) (F0 m 123 ls [.int y0, .int y1, .int y2, .ref (B + k)]) := by
    clear hM hl h
    intro v1 y0 y1 y2 σ  H locs ls hM hl h
    unfold F_X7_closes_J123 at h
    obtain ⟨q13, eq13, h⟩ := bd_h h
    refine x_callV (As := [.int y2, .int y1, .int y0]) CX hM (kdYl hk_k rfl) (ly7 hk_k _) rfl lk_X7_81 (c_X7_grows l E B hk_k eq13) ⟨rfl, rfl, by decide, by decide⟩ rfl hl.1 rfl (Nat.le_of_ble_eq_true rfl) dX7_closes_123 (fun H locs hM => ?_)
    refine W.eq (g2 := F0 m 126 ls []) rfl ?_
    refine lv_aload_n hx hb dX7_closes_126 rfl (lv_at hl 0 rfl) ?_
    refine lv_iload_n hx hb dX7_closes_127 rfl (lv_at hl 1 rfl) ?_
    refine lv_bipush (v := 15) hx hb dX7_closes_128 (by decide) ?_
    refine lv_aload_n hx hb dX7_closes_130 rfl (lv_at hl 0 rfl) ?_
    refine g7_0 CX hM hk_k wf_X7_7 dX7_closes_131 ?_
    refine lv_bipush (v := 8) hx hb dX7_closes_134 (by decide) ?_
    obtain ⟨g14, h⟩ := ck_h h
    refine x_iald CX hM (kdYl (kd7_f hk_k).1 rfl) (ly20 (kd7_f hk_k).1 _) g14 dX7_closes_136 ?_
    obtain ⟨q15, eq15, h⟩ := bd_h h
    refine x_callV (As := [.int v1, .int 15, .int (q13.2 (k + 1) (Int32.toNatClampNeg 8))]) CX hM (kdYl hk_k rfl) (ly7 hk_k _) rfl lk_X7_51 (c_X7_puts l E B hk_k eq15) ⟨rfl, rfl, by decide, by decide⟩ rfl hl.1 rfl (Nat.le_of_ble_eq_true rfl) dX7_closes_137 (fun H locs hM => ?_)
    refine W.eq (g2 := F0 m 140 ls []) rfl ?_
    obtain rfl := Option.some.inj h
    exact x_vret CX hr hlk hM rfl dX7_closes_140
  have J104 : ∀ (v1 : Int32) (y0 : Int32) (σ : xM), ∀ (H : Heap) (locs : List Loc) (ls : Array Slot), xS E B 7 (layY E B) s σ H locs → lv_has ls 3 [(0, .ref (B + k)), (1, .int v1)] → F_X7_closes_J104 k v1 y0 σ = some q → W p l e rm_X7_closes s m ([.ref (B + k), .int x1] : List Value).toArray below meth c H locs 0 0 (MQ below (xQ E B 7 (layY E B) none q.2) ([.ref (B + k), .int x1] : List Value).toArray s 0 0 (wA B 7)) (F0 m 104 ls [.int y0]) := by
    clear hM hl h
    intro v1 y0 σ  H locs ls hM hl h
    unfold F_X7_closes_J104 at h
    refine lv_istore_n (lv' := [(2, .int y0), (0, .ref (B + k)), (1, .int v1)]) hx hb dX7_closes_104 rfl hl (by decide) rfl (fun ls hl => ?_)
    refine lv_aload_n hx hb dX7_closes_105 rfl (lv_at hl 1 rfl) ?_
    refine lv_iload_n hx hb dX7_closes_106 rfl (lv_at hl 2 rfl) ?_
    refine lv_bipush (v := 12) hx hb dX7_closes_107 (by decide) ?_
    refine lv_iload_n hx hb dX7_closes_109 rfl (lv_at hl 0 rfl) ?_
    refine lv_if_eq (tgt := 122) hx hb dX7_closes_110 (by decide) (fun c12 => ?_) (fun c12 => ?_)
    · replace h := it_h c12 h
      refine lv_iconst (v := 0) hx hb dX7_closes_122 (by decide) ?_
      exact J123 _ _ _ _ _  _ _ _ hM (lv_sub hl [1, 2] rfl) h
    · replace h := if_h c12 h
      refine lv_aload_n hx hb dX7_closes_113 rfl (lv_at hl 1 rfl) ?_
      refine g7_0 CX hM hk_k wf_X7_7 dX7_closes_114 ?_
      refine lv_iconst (v := 4) hx hb dX7_closes_117 (by decide) ?_
      obtain ⟨g16, h⟩ := ck_h h
      refine x_iald CX hM (kdYl (kd7_f hk_k).1 rfl) (ly20 (kd7_f hk_k).1 _) g16 dX7_closes_118 ?_
      refine lv_goto (tgt := 123) hx hb dX7_closes_119 (by decide) ?_
      exact J123 _ _ _ _ _  _ _ _ hM (lv_sub hl [1, 2] rfl) h
  have J103 : ∀ (v1 : Int32) (σ : xM), ∀ (H : Heap) (locs : List Loc) (ls : Array Slot), xS E B 7 (layY E B) s σ H locs → lv_has ls 3 [(0, .ref (B + k)), (1, .int v1)] → F_X7_closes_J103 k v1 σ = some q → W p l e rm_X7_closes s m ([.ref (B + k), .int x1] : List Value).toArray below meth c H locs 0 0 (MQ below (xQ E B 7 (layY E B) none q.2) ([.ref (B + k), .int x1] : List Value).toArray s 0 0 (wA B 7)) (F0 m 103 ls []) := by
    clear hM hl h
    intro v1 σ  H locs ls hM hl h
    unfold F_X7_closes_J103 at h
    refine lv_iconst (v := 0) hx hb dX7_closes_103 (by decide) ?_
    exact J104 _ _ _  _ _ _ hM (lv_sub hl [0, 1] rfl) h
  have J60 : ∀ (v1 : Int32) (y0 : Int32) (y1 : Int32) (y2 : Int32) (σ : xM), ∀ (H : Heap) (locs : List Loc) (ls : Array Slot), xS E B 7 (layY E B) s σ H locs → lv_has ls 3 [(0, .ref (B + k)), (1, .int v1)] → F_X7_closes_J60 k v1 y0 y1 y2 σ = some q → W p l e rm_X7_closes s m ([.ref (B + k), .int x1] : List Value).toArray below meth c H locs 0 0 (MQ below (xQ E B 7 (layY E B) none q.2) ([.ref (B + k), .int x1] : List Value).toArray s 0 0 (wA B 7)) (F0 m 60 ls [.int y0, .int y1, .int y2, .ref (B + k)]) := by
    clear hM hl h
    intro v1 y0 y1 y2 σ  H locs ls hM hl h
    unfold F_X7_closes_J60 at h
    obtain ⟨q9, eq9, h⟩ := bd_h h
    refine x_callV (As := [.int y2, .int y1, .int y0]) CX hM (kdYl hk_k rfl) (ly7 hk_k _) rfl lk_X7_51 (c_X7_puts l E B hk_k eq9) ⟨rfl, rfl, by decide, by decide⟩ rfl hl.1 rfl (Nat.le_of_ble_eq_true rfl) dX7_closes_60 (fun H locs hM => ?_)
    refine W.eq (g2 := F0 m 63 ls []) rfl ?_
    refine lv_aload_n hx hb dX7_closes_63 rfl (lv_at hl 0 rfl) ?_
    refine lv_iload_n hx hb dX7_closes_64 rfl (lv_at hl 1 rfl) ?_
    refine lv_bipush (v := 15) hx hb dX7_closes_65 (by decide) ?_
    obtain ⟨q10, eq10, h⟩ := bd_h h
    refine x_callV (As := [.int v1, .int 15]) CX hM (kdYl hk_k rfl) (ly7 hk_k _) rfl lk_X7_39 (c_X7_of l E B hk_k eq10) ⟨rfl, rfl, by decide, by decide⟩ rfl hl.1 rfl (Nat.le_of_ble_eq_true rfl) dX7_closes_67 (fun H locs hM => ?_)
    refine W.eq (g2 := F0 m 70 ls [.int q10.1]) rfl ?_
    refine lv_ldc (v := (-1000009)) hx hb CX.1.2.2.2.1 (x_hts CX wc_X7_55) dX7_closes_70 ?_
    refine lv_icmp_eq (tgt := 103) hx hb dX7_closes_72 (by decide) (fun c11 => ?_) (fun c11 => ?_)
    · replace h := it_h c11 h
      exact J103 _ _  _ _ _ hM (lv_sub hl [0, 1] rfl) h
    · replace h := if_h c11 h
      refine lv_aload_n hx hb dX7_closes_75 rfl (lv_at hl 0 rfl) ?_
      refine g7_0 CX hM hk_k wf_X7_7 dX7_closes_76 ?_
      refine lv_bipush (v := 8) hx hb dX7_closes_79 (by decide) ?_
      obtain ⟨g17, h⟩ := ck_h h
      refine x_iald CX hM (kdYl (kd7_f hk_k).1 rfl) (ly20 (kd7_f hk_k).1 _) g17 dX7_closes_81 ?_
      refine lv_aload_n hx hb dX7_closes_82 rfl (lv_at hl 0 rfl) ?_
      refine lv_iload_n hx hb dX7_closes_83 rfl (lv_at hl 1 rfl) ?_
      refine lv_bipush (v := 15) hx hb dX7_closes_84 (by decide) ?_
      obtain ⟨q18, eq18, h⟩ := bd_h h
      refine x_callV (As := [.int v1, .int 15]) CX hM (kdYl hk_k rfl) (ly7 hk_k _) rfl lk_X7_39 (c_X7_of l E B hk_k eq18) ⟨rfl, rfl, by decide, by decide⟩ rfl hl.1 rfl (Nat.le_of_ble_eq_true rfl) dX7_closes_86 (fun H locs hM => ?_)
      refine W.eq (g2 := F0 m 89 ls [.int q18.1, .int (q10.2 (k + 1) (Int32.toNatClampNeg 8))]) rfl ?_
      refine lv_isub hx hb dX7_closes_89 ?_
      refine lv_aload_n hx hb dX7_closes_90 rfl (lv_at hl 0 rfl) ?_
      refine g7_0 CX hM hk_k wf_X7_7 dX7_closes_91 ?_
      refine lv_iconst (v := 3) hx hb dX7_closes_94 (by decide) ?_
      obtain ⟨g19, h⟩ := ck_h h
      refine x_iald CX hM (kdYl (kd7_f hk_k).1 rfl) (ly20 (kd7_f hk_k).1 _) g19 dX7_closes_95 ?_
      refine lv_icmp_ge (tgt := 103) hx hb dX7_closes_96 (by decide) (fun c20 => ?_) (fun c20 => ?_)
      · replace h := it_h c20 h
        exact J103 _ _  _ _ _ hM (lv_sub hl [0, 1] rfl) h
      · replace h := if_h c20 h
        refine lv_iconst (v := 1) hx hb dX7_closes_99 (by decide) ?_
        refine lv_goto (tgt := 104) hx hb dX7_closes_100 (by decide) ?_
        exact J104 _ _ _  _ _ _ hM (lv_sub hl [0, 1] rfl) h
  refine lv_aload_n hx hb dX7_closes_0 rfl (lv_at hl 0 rfl) ?_
  refine lv_iload_n hx hb dX7_closes_1 rfl (lv_at hl 1 rfl) ?_
  refine lv_bipush (v := 7) hx hb dX7_closes_2 (by decide) ?_
  refine lv_iconst (v := 1) hx hb dX7_closes_4 (by decide) ?_
  obtain ⟨q1, eq1, h⟩ := bd_h h
  refine x_callV (As := [.int x1, .int 7, .int 1]) CX hM (kdYl hk_k rfl) (ly7 hk_k _) rfl lk_X7_51 (c_X7_puts l E B hk_k eq1) ⟨rfl, rfl, by decide, by decide⟩ rfl hl.1 rfl (Nat.le_of_ble_eq_true rfl) dX7_closes_5 (fun H locs hM => ?_)
  refine W.eq (g2 := F0 m 8 ls []) rfl ?_
  refine lv_aload_n hx hb dX7_closes_8 rfl (lv_at hl 0 rfl) ?_
  refine lv_iload_n hx hb dX7_closes_9 rfl (lv_at hl 1 rfl) ?_
  refine lv_bipush (v := 11) hx hb dX7_closes_10 (by decide) ?_
  refine lv_iconst (v := 1) hx hb dX7_closes_12 (by decide) ?_
  obtain ⟨q2, eq2, h⟩ := bd_h h
  refine x_callV (As := [.int x1, .int 11, .int 1]) CX hM (kdYl hk_k rfl) (ly7 hk_k _) rfl lk_X7_81 (c_X7_grows l E B hk_k eq2) ⟨rfl, rfl, by decide, by decide⟩ rfl hl.1 rfl (Nat.le_of_ble_eq_true rfl) dX7_closes_13 (fun H locs hM => ?_)
  refine W.eq (g2 := F0 m 16 ls []) rfl ?_
  refine lv_aload_n hx hb dX7_closes_16 rfl (lv_at hl 0 rfl) ?_
  refine lv_iload_n hx hb dX7_closes_17 rfl (lv_at hl 1 rfl) ?_
  refine lv_bipush (v := 9) hx hb dX7_closes_18 (by decide) ?_
  refine lv_aload_n hx hb dX7_closes_20 rfl (lv_at hl 0 rfl) ?_
  refine lv_iload_n hx hb dX7_closes_21 rfl (lv_at hl 1 rfl) ?_
  refine lv_iconst (v := 2) hx hb dX7_closes_22 (by decide) ?_
  obtain ⟨q3, eq3, h⟩ := bd_h h
  refine x_callV (As := [.int x1, .int 2]) CX hM (kdYl hk_k rfl) (ly7 hk_k _) rfl lk_X7_39 (c_X7_of l E B hk_k eq3) ⟨rfl, rfl, by decide, by decide⟩ rfl hl.1 rfl (Nat.le_of_ble_eq_true rfl) dX7_closes_23 (fun H locs hM => ?_)
  refine W.eq (g2 := F0 m 26 ls [.int q3.1, .int 9, .int x1, .ref (B + k)]) rfl ?_
  obtain ⟨q4, eq4, h⟩ := bd_h h
  refine x_callV (As := [.int x1, .int 9, .int q3.1]) CX hM (kdYl hk_k rfl) (ly7 hk_k _) rfl lk_X7_81 (c_X7_grows l E B hk_k eq4) ⟨rfl, rfl, by decide, by decide⟩ rfl hl.1 rfl (Nat.le_of_ble_eq_true rfl) dX7_closes_26 (fun H locs hM => ?_)
  refine W.eq (g2 := F0 m 29 ls []) rfl ?_
  refine lv_aload_n hx hb dX7_closes_29 rfl (lv_at hl 0 rfl) ?_
  refine lv_iload_n hx hb dX7_closes_30 rfl (lv_at hl 1 rfl) ?_
  refine lv_bipush (v := 8) hx hb dX7_closes_31 (by decide) ?_
  refine lv_aload_n hx hb dX7_closes_33 rfl (lv_at hl 0 rfl) ?_
  refine lv_iload_n hx hb dX7_closes_34 rfl (lv_at hl 1 rfl) ?_
  refine lv_bipush (v := 9) hx hb dX7_closes_35 (by decide) ?_
  obtain ⟨q5, eq5, h⟩ := bd_h h
  refine x_callV (As := [.int x1, .int 9]) CX hM (kdYl hk_k rfl) (ly7 hk_k _) rfl lk_X7_39 (c_X7_of l E B hk_k eq5) ⟨rfl, rfl, by decide, by decide⟩ rfl hl.1 rfl (Nat.le_of_ble_eq_true rfl) dX7_closes_37 (fun H locs hM => ?_)
  refine W.eq (g2 := F0 m 40 ls [.int q5.1, .int 8, .int x1, .ref (B + k)]) rfl ?_
  refine lv_aload_n hx hb dX7_closes_40 rfl (lv_at hl 0 rfl) ?_
  refine g7_0 CX hM hk_k wf_X7_7 dX7_closes_41 ?_
  refine lv_iconst (v := 1) hx hb dX7_closes_44 (by decide) ?_
  obtain ⟨g6, h⟩ := ck_h h
  refine x_iald CX hM (kdYl (kd7_f hk_k).1 rfl) (ly20 (kd7_f hk_k).1 _) g6 dX7_closes_45 ?_
  refine lv_icmp_lt (tgt := 53) hx hb dX7_closes_46 (by decide) (fun c7 => ?_) (fun c7 => ?_)
  · replace h := it_h c7 h
    refine lv_aload_n hx hb dX7_closes_53 rfl (lv_at hl 0 rfl) ?_
    refine lv_iload_n hx hb dX7_closes_54 rfl (lv_at hl 1 rfl) ?_
    refine lv_bipush (v := 8) hx hb dX7_closes_55 (by decide) ?_
    obtain ⟨q8, eq8, h⟩ := bd_h h
    refine x_callV (As := [.int x1, .int 8]) CX hM (kdYl hk_k rfl) (ly7 hk_k _) rfl lk_X7_39 (c_X7_of l E B hk_k eq8) ⟨rfl, rfl, by decide, by decide⟩ rfl hl.1 rfl (Nat.le_of_ble_eq_true rfl) dX7_closes_57 (fun H locs hM => ?_)
    refine W.eq (g2 := F0 m 60 ls [.int q8.1, .int 8, .int x1, .ref (B + k)]) rfl ?_
    exact J60 _ _ _ _ _  _ _ _ hM (lv_sub hl [0, 1] rfl) h
  · replace h := if_h c7 h
    refine lv_iconst (v := 1) hx hb dX7_closes_49 (by decide) ?_
    refine lv_goto (tgt := 60) hx hb dX7_closes_50 (by decide) ?_
    exact J60 _ _ _ _ _  _ _ _ hM (lv_sub hl [0, 1] rfl) h
