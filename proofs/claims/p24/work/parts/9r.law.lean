set_option maxHeartbeats 4000000 in
set_option maxRecDepth 100000 in
theorem law_LL (l : Launch) {p : Program} {e : Env} {s : State} {m : MethodId} {below : List Frame} {meth : Method} {c : Code} {E : xE} {B b : Nat} {LX : Nat × (Nat → Int32)} (CX : lCX p m c s E B b LX) (hr : meth.sig.returnType = ret) (hlk : meth.locks = false) (hL : LX.1 ≤ 260) {q : Int32 × xM} (hq : q.1 = 1) : ∀ (N : Nat), (∀ (v2 : Int32) (v3 : Int32) (σ : xM) (H : Heap) (locs : List Loc) (ls : Array Slot), lX E B s σ H locs → lv_has ls 17 [(0, .ref b), (1, .ref (B + 0)), (2, .int v2), (3, .int v3)] → F_L_law_LL LX N 12 v2 v3 0 0 0 0 0 σ = some q → W p l e room_1 s m #[.ref b] below meth c H locs 160 1904 (lw_Z below #[Value.ref b] s) (F0 m 12 ls [])) ∧ (∀ (v2 : Int32) (v3 : Int32) (v9 : Int32) (v10 : Int32) (v11 : Int32) (v12 : Int32) (v13 : Int32) (σ : xM) (H : Heap) (locs : List Loc) (ls : Array Slot), lX E B s σ H locs → lv_has ls 17 [(0, .ref b), (1, .ref (B + 0)), (2, .int v2), (3, .int v3), (9, .int v9), (10, .int v10), (11, .int v11), (12, .int v12), (13, .int v13)] → F_L_law_LL LX N 190 v2 v3 v9 v10 v11 v12 v13 σ = some q → W p l e room_1 s m #[.ref b] below meth c H locs 160 1904 (lw_Z below #[Value.ref b] s) (F0 m 190 ls [])) := by
  have hx := CX.1.1.1
  have hb := CX.1.1.2.1
  intro N
  induction N with
  | zero =>
    refine ⟨?_, ?_⟩
    · intro v2 v3 σ H locs ls hM hl h
      cases h
    · intro v2 v3 v9 v10 v11 v12 v13 σ H locs ls hM hl h
      cases h
  | succ N ih =>
    refine ⟨?_, ?_⟩
    · intro v2 v3 σ H locs ls hM hl h
      rw [F_L_law_LL] at h
      replace h := it_h rfl h
      refine lv_iload_n hx hb dL_law_12 rfl (lv_at hl 3 rfl) ?_
      refine lv_bipush (v := 40) hx hb dL_law_13 (by decide) ?_
      refine lv_icmp_ge (tgt := 453) hx hb dL_law_15 (by decide) (fun c1 => ?_) (fun c1 => ?_)
      · replace h := it_h c1 h
        refine lv_aload_n hx hb dL_law_453 rfl (lv_at hl 1 rfl) ?_
        obtain ⟨q2, eq2, h⟩ := bd_h h
        refine l_callV (As := []) CX hM (kdl (show kd 0 = 6 from rfl) rfl) (ly6 (show kd 0 = 6 from rfl) _) rfl lk_L_80 (c_X6_undo l E B (show kd 0 = 6 from rfl) eq2) ⟨rfl, rfl, by decide, by decide⟩ rfl hl.1 rfl (Nat.le_of_ble_eq_true rfl) dL_law_454 (fun H locs hM => ?_)
        refine W.eq (g2 := F0 m 457 ls [.int q2.1]) rfl ?_
        refine lv_iload_n hx hb dL_law_457 rfl (lv_at hl 2 rfl) ?_
        refine lv_if_ne (tgt := 466) hx hb dL_law_458 (by decide) (fun c3 => ?_) (fun c3 => ?_)
        · replace h := if_h c3 h
          refine lv_iload_n hx hb dL_law_466 rfl (lv_at hl 2 rfl) ?_
          refine lv_iconst (v := 1) hx hb dL_law_467 (by decide) ?_
          refine lv_isub hx hb dL_law_468 ?_
          refine lv_icmp_ne (tgt := 476) hx hb dL_law_469 (by decide) (fun c4 => ?_) (fun c4 => ?_)
          · replace h := if_h c4 h
            refine lv_iconst (v := 0) hx hb dL_law_476 (by decide) ?_
            obtain rfl := Option.some.inj h
            exact absurd (show (0 : Int32) = 1 from hq) (by decide)
          · replace h := it_h c4 h
            refine lv_iconst (v := 1) hx hb dL_law_472 (by decide) ?_
            refine lv_goto (tgt := 477) hx hb dL_law_473 (by decide) ?_
            exact l_exit CX hr hlk hM dL_law_477
        · replace h := it_h c3 h
          refine lv_ldc (v := (-1000002)) hx hb CX.1.1.2.2.2.1 (l_hts CX wc_L_90) dL_law_461 ?_
          refine lv_goto (tgt := 469) hx hb dL_law_463 (by decide) ?_
          refine lv_icmp_ne (tgt := 476) hx hb dL_law_469 (by decide) (fun c5 => ?_) (fun c5 => ?_)
          · replace h := if_h c5 h
            refine lv_iconst (v := 0) hx hb dL_law_476 (by decide) ?_
            obtain rfl := Option.some.inj h
            exact absurd (show (0 : Int32) = 1 from hq) (by decide)
          · replace h := it_h c5 h
            refine lv_iconst (v := 1) hx hb dL_law_472 (by decide) ?_
            refine lv_goto (tgt := 477) hx hb dL_law_473 (by decide) ?_
            exact l_exit CX hr hlk hM dL_law_477
      · replace h := if_h c1 h
        refine lv_aload_n hx hb dL_law_18 rfl (lv_at hl 0 rfl) ?_
        refine lv_iload_n hx hb dL_law_19 rfl (lv_at hl 3 rfl) ?_
        obtain ⟨g6, h⟩ := nz_h h
        refine l_cell CX hM hL g6 lk_L_67 hl.1 rfl (Nat.le_of_ble_eq_true rfl) dL_law_20 (fun H locs hM => ?_)
        refine W.eq (g2 := F0 m 23 ls [.int (cellV LX v3)]) rfl ?_
        refine lv_topi (fun x4_7 ex4_7 => ?_)
        replace h := nm_h ex4_7 h
        refine lv_istore (lv' := [(4, .int x4_7), (0, .ref b), (1, .ref (B + 0)), (2, .int v2), (3, .int v3)]) hx hb dL_law_23 hl (by decide) rfl (fun ls hl => ?_)
        refine lv_aload_n hx hb dL_law_25 rfl (lv_at hl 2 rfl) ?_
        obtain ⟨q8, eq8, h⟩ := bd_h h
        refine l_callS (As := [.ref (B + 0)]) CX hM lk_L_71 (c_L_tale l E B (show kd 0 = 6 from rfl) eq8) ⟨rfl, rfl, by decide, by decide⟩ rfl hl.1 rfl (Nat.le_of_ble_eq_true rfl) dL_law_26 (fun H locs hM => ?_)
        refine W.eq (g2 := F0 m 29 ls [.long q8.1]) rfl ?_
        refine lv_lstore (lv' := [(5, .long q8.1), (4, .int x4_7), (0, .ref b), (1, .ref (B + 0)), (2, .int v2), (3, .int v3)]) hx hb dL_law_29 hl (by decide) rfl (fun ls hl => ?_)
        refine lv_aload_n hx hb dL_law_31 rfl (lv_at hl 3 rfl) ?_
        refine lv_iload hx hb dL_law_32 (lv_at hl 1 rfl) ?_
        obtain ⟨q9, eq9, h⟩ := bd_h h
        refine l_callS (As := [.ref (B + 0), .int x4_7]) CX hM lk_L_75 (c_L_does l E B (show kd 0 = 6 from rfl) eq9) ⟨rfl, rfl, by decide, by decide⟩ rfl hl.1 rfl (Nat.le_of_ble_eq_true rfl) dL_law_34 (fun H locs hM => ?_)
        refine W.eq (g2 := F0 m 37 ls [.int q9.1]) rfl ?_
        refine lv_istore (lv' := [(7, .int q9.1), (5, .long q8.1), (4, .int x4_7), (0, .ref b), (1, .ref (B + 0)), (2, .int v2), (3, .int v3)]) hx hb dL_law_37 hl (by decide) rfl (fun ls hl => ?_)
        refine lv_iload hx hb dL_law_39 (lv_at hl 0 rfl) ?_
        refine lv_ldc (v := (-1000000)) hx hb CX.1.1.2.2.2.1 (l_hts CX wc_L_79) dL_law_41 ?_
        refine lv_icmp_le (tgt := 50) hx hb dL_law_43 (by decide) (fun c10 => ?_) (fun c10 => ?_)
        · replace h := it_h c10 h
          refine lv_iconst (v := 0) hx hb dL_law_50 (by decide) ?_
          refine lv_istore (lv' := [(8, .int 0), (7, .int q9.1), (5, .long q8.1), (4, .int x4_7), (0, .ref b), (1, .ref (B + 0)), (2, .int v2), (3, .int v3)]) hx hb dL_law_51 hl (by decide) rfl (fun ls hl => ?_)
          refine lv_iload hx hb dL_law_53 (lv_at hl 0 rfl) ?_
          refine lv_if_ne (tgt := 70) hx hb dL_law_55 (by decide) (fun c11 => ?_) (fun c11 => ?_)
          · exact absurd c11 (by decide)
          · refine lv_aload_n hx hb dL_law_58 rfl (lv_at hl 5 rfl) ?_
            obtain ⟨q12, eq12, h⟩ := bd_h h
            refine l_callS (As := [.ref (B + 0)]) CX hM lk_L_71 (c_L_tale l E B (show kd 0 = 6 from rfl) eq12) ⟨rfl, rfl, by decide, by decide⟩ rfl hl.1 rfl (Nat.le_of_ble_eq_true rfl) dL_law_59 (fun H locs hM => ?_)
            refine W.eq (g2 := F0 m 62 ls [.long q12.1]) rfl ?_
            refine lv_lload hx hb dL_law_62 (lv_at hl 2 rfl) ?_
            refine W.lcmp hx hb dL_law_64 ?_
            refine lv_if_eq (tgt := 70) hx hb dL_law_65 (by decide) (fun c13 => ?_) (fun c13 => ?_)
            · replace h := it_h c13 h
              refine lv_iload hx hb dL_law_70 (lv_at hl 0 rfl) ?_
              refine lv_if_ne (tgt := 79) hx hb dL_law_72 (by decide) (fun c14 => ?_) (fun c14 => ?_)
              · exact absurd c14 (by decide)
              · refine lv_iload_n hx hb dL_law_75 rfl (lv_at hl 6 rfl) ?_
                refine lv_goto (tgt := 93) hx hb dL_law_76 (by decide) ?_
                refine lv_istore_n (lv' := [(2, .int v2), (8, .int 0), (7, .int q9.1), (5, .long q8.1), (4, .int x4_7), (0, .ref b), (1, .ref (B + 0)), (3, .int v3)]) hx hb dL_law_93 rfl hl (by decide) rfl (fun ls hl => ?_)
                refine lv_iload hx hb dL_law_94 (lv_at hl 1 rfl) ?_
                refine lv_if_eq (tgt := 134) hx hb dL_law_96 (by decide) (fun c15 => ?_) (fun c15 => ?_)
                · refine lv_aload_n hx hb dL_law_134 rfl (lv_at hl 6 rfl) ?_
                  refine lv_bipush (v := 13) hx hb dL_law_135 (by decide) ?_
                  obtain ⟨q16, eq16, h⟩ := bd_h h
                  refine l_callV (As := [.int 13]) CX hM (kdl (show kd 0 = 6 from rfl) rfl) (ly6 (show kd 0 = 6 from rfl) _) rfl lk_L_12 (c_X6_count l E B (show kd 0 = 6 from rfl) eq16) ⟨rfl, rfl, by decide, by decide⟩ rfl hl.1 rfl (Nat.le_of_ble_eq_true rfl) dL_law_137 (fun H locs hM => ?_)
                  refine W.eq (g2 := F0 m 140 ls [.int q16.1]) rfl ?_
                  refine lv_iload_n hx hb dL_law_140 rfl (lv_at hl 0 rfl) ?_
                  refine lv_icmp_eq (tgt := 146) hx hb dL_law_141 (by decide) (fun c17 => ?_) (fun c17 => ?_)
                  · replace h := it_h c17 h
                    refine lv_iload hx hb dL_law_146 (lv_at hl 1 rfl) ?_
                    refine lv_if_eq (tgt := 175) hx hb dL_law_148 (by decide) (fun c18 => ?_) (fun c18 => ?_)
                    · refine lv_iconst (v := 0) hx hb dL_law_175 (by decide) ?_
                      refine lv_istore (lv' := [(9, .int 0), (2, .int v2), (8, .int 0), (7, .int q9.1), (5, .long q8.1), (4, .int x4_7), (0, .ref b), (1, .ref (B + 0)), (3, .int v3)]) hx hb dL_law_176 hl (by decide) rfl (fun ls hl => ?_)
                      refine lv_iconst (v := 0) hx hb dL_law_178 (by decide) ?_
                      refine lv_istore (lv' := [(10, .int 0), (9, .int 0), (2, .int v2), (8, .int 0), (7, .int q9.1), (5, .long q8.1), (4, .int x4_7), (0, .ref b), (1, .ref (B + 0)), (3, .int v3)]) hx hb dL_law_179 hl (by decide) rfl (fun ls hl => ?_)
                      refine lv_iconst (v := 0) hx hb dL_law_181 (by decide) ?_
                      refine lv_istore (lv' := [(11, .int 0), (10, .int 0), (9, .int 0), (2, .int v2), (8, .int 0), (7, .int q9.1), (5, .long q8.1), (4, .int x4_7), (0, .ref b), (1, .ref (B + 0)), (3, .int v3)]) hx hb dL_law_182 hl (by decide) rfl (fun ls hl => ?_)
                      refine lv_iconst (v := 0) hx hb dL_law_184 (by decide) ?_
                      refine lv_istore (lv' := [(12, .int 0), (11, .int 0), (10, .int 0), (9, .int 0), (2, .int v2), (8, .int 0), (7, .int q9.1), (5, .long q8.1), (4, .int x4_7), (0, .ref b), (1, .ref (B + 0)), (3, .int v3)]) hx hb dL_law_185 hl (by decide) rfl (fun ls hl => ?_)
                      refine lv_iconst (v := 0) hx hb dL_law_187 (by decide) ?_
                      refine lv_istore (lv' := [(13, .int 0), (12, .int 0), (11, .int 0), (10, .int 0), (9, .int 0), (2, .int v2), (8, .int 0), (7, .int q9.1), (5, .long q8.1), (4, .int x4_7), (0, .ref b), (1, .ref (B + 0)), (3, .int v3)]) hx hb dL_law_188 hl (by decide) rfl (fun ls hl => ?_)
                      exact ih.2 _ _ _ _ _ _ _ _ _ _ _ hM (lv_sub hl [10, 11, 5, 12, 4, 3, 2, 1, 0] rfl) h
                    · exact absurd c18 (by decide)
                  · replace h := if_h c17 h
                    refine lv_iconst (v := 0) hx hb dL_law_144 (by decide) ?_
                    obtain rfl := Option.some.inj h
                    exact absurd (show (0 : Int32) = 1 from hq) (by decide)
                · exact absurd c15 (by decide)
            · replace h := if_h c13 h
              refine lv_iconst (v := 0) hx hb dL_law_68 (by decide) ?_
              obtain rfl := Option.some.inj h
              exact absurd (show (0 : Int32) = 1 from hq) (by decide)
        · replace h := if_h c10 h
          refine lv_iconst (v := 1) hx hb dL_law_46 (by decide) ?_
          refine lv_goto (tgt := 51) hx hb dL_law_47 (by decide) ?_
          refine lv_istore (lv' := [(8, .int 1), (7, .int q9.1), (5, .long q8.1), (4, .int x4_7), (0, .ref b), (1, .ref (B + 0)), (2, .int v2), (3, .int v3)]) hx hb dL_law_51 hl (by decide) rfl (fun ls hl => ?_)
          refine lv_iload hx hb dL_law_53 (lv_at hl 0 rfl) ?_
          refine lv_if_ne (tgt := 70) hx hb dL_law_55 (by decide) (fun c108 => ?_) (fun c108 => ?_)
          · refine lv_iload hx hb dL_law_70 (lv_at hl 0 rfl) ?_
            refine lv_if_ne (tgt := 79) hx hb dL_law_72 (by decide) (fun c109 => ?_) (fun c109 => ?_)
            · refine lv_iload_n hx hb dL_law_79 rfl (lv_at hl 6 rfl) ?_
              refine lv_bipush (v := 6) hx hb dL_law_80 (by decide) ?_
              refine lv_icmp_ge (tgt := 91) hx hb dL_law_82 (by decide) (fun c110 => ?_) (fun c110 => ?_)
              · replace h := it_h c110 h
                refine lv_bipush (v := 6) hx hb dL_law_91 (by decide) ?_
                refine lv_istore_n (lv' := [(2, .int 6), (8, .int 1), (7, .int q9.1), (5, .long q8.1), (4, .int x4_7), (0, .ref b), (1, .ref (B + 0)), (3, .int v3)]) hx hb dL_law_93 rfl hl (by decide) rfl (fun ls hl => ?_)
                refine lv_iload hx hb dL_law_94 (lv_at hl 1 rfl) ?_
                refine lv_if_eq (tgt := 134) hx hb dL_law_96 (by decide) (fun c111 => ?_) (fun c111 => ?_)
                · exact absurd c111 (by decide)
                · refine lv_iload hx hb dL_law_99 (lv_at hl 4 rfl) ?_
                  refine lv_bipush (v := 28) hx hb dL_law_101 (by decide) ?_
                  refine lv_ishr hx hb dL_law_103 ?_
                  refine lv_iconst (v := 3) hx hb dL_law_104 (by decide) ?_
                  refine lv_iand hx hb dL_law_105 ?_
                  refine lv_if_ne (tgt := 134) hx hb dL_law_106 (by decide) (fun c112 => ?_) (fun c112 => ?_)
                  · replace h := if_h c112 h
                    refine lv_aload_n hx hb dL_law_134 rfl (lv_at hl 6 rfl) ?_
                    refine lv_bipush (v := 13) hx hb dL_law_135 (by decide) ?_
                    obtain ⟨q113, eq113, h⟩ := bd_h h
                    refine l_callV (As := [.int 13]) CX hM (kdl (show kd 0 = 6 from rfl) rfl) (ly6 (show kd 0 = 6 from rfl) _) rfl lk_L_12 (c_X6_count l E B (show kd 0 = 6 from rfl) eq113) ⟨rfl, rfl, by decide, by decide⟩ rfl hl.1 rfl (Nat.le_of_ble_eq_true rfl) dL_law_137 (fun H locs hM => ?_)
                    refine W.eq (g2 := F0 m 140 ls [.int q113.1]) rfl ?_
                    refine lv_iload_n hx hb dL_law_140 rfl (lv_at hl 0 rfl) ?_
                    refine lv_icmp_eq (tgt := 146) hx hb dL_law_141 (by decide) (fun c114 => ?_) (fun c114 => ?_)
                    · replace h := it_h c114 h
                      refine lv_iload hx hb dL_law_146 (lv_at hl 1 rfl) ?_
                      refine lv_if_eq (tgt := 175) hx hb dL_law_148 (by decide) (fun c115 => ?_) (fun c115 => ?_)
                      · exact absurd c115 (by decide)
                      · refine lv_iload hx hb dL_law_151 (lv_at hl 4 rfl) ?_
                        refine lv_bipush (v := 15) hx hb dL_law_153 (by decide) ?_
                        refine lv_iand hx hb dL_law_155 ?_
                        refine lv_bipush (v := 8) hx hb dL_law_156 (by decide) ?_
                        refine lv_icmp_le (tgt := 175) hx hb dL_law_158 (by decide) (fun c116 => ?_) (fun c116 => ?_)
                        · replace h := it_h c116 h
                          refine lv_iconst (v := 0) hx hb dL_law_175 (by decide) ?_
                          refine lv_istore (lv' := [(9, .int 0), (2, .int 6), (8, .int 1), (7, .int q9.1), (5, .long q8.1), (4, .int x4_7), (0, .ref b), (1, .ref (B + 0)), (3, .int v3)]) hx hb dL_law_176 hl (by decide) rfl (fun ls hl => ?_)
                          refine lv_iconst (v := 0) hx hb dL_law_178 (by decide) ?_
                          refine lv_istore (lv' := [(10, .int 0), (9, .int 0), (2, .int 6), (8, .int 1), (7, .int q9.1), (5, .long q8.1), (4, .int x4_7), (0, .ref b), (1, .ref (B + 0)), (3, .int v3)]) hx hb dL_law_179 hl (by decide) rfl (fun ls hl => ?_)
                          refine lv_iconst (v := 0) hx hb dL_law_181 (by decide) ?_
                          refine lv_istore (lv' := [(11, .int 0), (10, .int 0), (9, .int 0), (2, .int 6), (8, .int 1), (7, .int q9.1), (5, .long q8.1), (4, .int x4_7), (0, .ref b), (1, .ref (B + 0)), (3, .int v3)]) hx hb dL_law_182 hl (by decide) rfl (fun ls hl => ?_)
                          refine lv_iconst (v := 0) hx hb dL_law_184 (by decide) ?_
                          refine lv_istore (lv' := [(12, .int 0), (11, .int 0), (10, .int 0), (9, .int 0), (2, .int 6), (8, .int 1), (7, .int q9.1), (5, .long q8.1), (4, .int x4_7), (0, .ref b), (1, .ref (B + 0)), (3, .int v3)]) hx hb dL_law_185 hl (by decide) rfl (fun ls hl => ?_)
                          refine lv_iconst (v := 0) hx hb dL_law_187 (by decide) ?_
                          refine lv_istore (lv' := [(13, .int 0), (12, .int 0), (11, .int 0), (10, .int 0), (9, .int 0), (2, .int 6), (8, .int 1), (7, .int q9.1), (5, .long q8.1), (4, .int x4_7), (0, .ref b), (1, .ref (B + 0)), (3, .int v3)]) hx hb dL_law_188 hl (by decide) rfl (fun ls hl => ?_)
                          exact ih.2 _ _ _ _ _ _ _ _ _ _ _ hM (lv_sub hl [10, 11, 5, 12, 4, 3, 2, 1, 0] rfl) h
                        · replace h := if_h c116 h
                          refine lv_iload hx hb dL_law_161 (lv_at hl 4 rfl) ?_
                          refine lv_bipush (v := 28) hx hb dL_law_163 (by decide) ?_
                          refine lv_ishr hx hb dL_law_165 ?_
                          refine lv_iconst (v := 3) hx hb dL_law_166 (by decide) ?_
                          refine lv_iand hx hb dL_law_167 ?_
                          refine lv_if_eq (tgt := 175) hx hb dL_law_168 (by decide) (fun c117 => ?_) (fun c117 => ?_)
                          · replace h := it_h c117 h
                            refine lv_iconst (v := 0) hx hb dL_law_175 (by decide) ?_
                            refine lv_istore (lv' := [(9, .int 0), (2, .int 6), (8, .int 1), (7, .int q9.1), (5, .long q8.1), (4, .int x4_7), (0, .ref b), (1, .ref (B + 0)), (3, .int v3)]) hx hb dL_law_176 hl (by decide) rfl (fun ls hl => ?_)
                            refine lv_iconst (v := 0) hx hb dL_law_178 (by decide) ?_
                            refine lv_istore (lv' := [(10, .int 0), (9, .int 0), (2, .int 6), (8, .int 1), (7, .int q9.1), (5, .long q8.1), (4, .int x4_7), (0, .ref b), (1, .ref (B + 0)), (3, .int v3)]) hx hb dL_law_179 hl (by decide) rfl (fun ls hl => ?_)
                            refine lv_iconst (v := 0) hx hb dL_law_181 (by decide) ?_
                            refine lv_istore (lv' := [(11, .int 0), (10, .int 0), (9, .int 0), (2, .int 6), (8, .int 1), (7, .int q9.1), (5, .long q8.1), (4, .int x4_7), (0, .ref b), (1, .ref (B + 0)), (3, .int v3)]) hx hb dL_law_182 hl (by decide) rfl (fun ls hl => ?_)
                            refine lv_iconst (v := 0) hx hb dL_law_184 (by decide) ?_
                            refine lv_istore (lv' := [(12, .int 0), (11, .int 0), (10, .int 0), (9, .int 0), (2, .int 6), (8, .int 1), (7, .int q9.1), (5, .long q8.1), (4, .int x4_7), (0, .ref b), (1, .ref (B + 0)), (3, .int v3)]) hx hb dL_law_185 hl (by decide) rfl (fun ls hl => ?_)
                            refine lv_iconst (v := 0) hx hb dL_law_187 (by decide) ?_
                            refine lv_istore (lv' := [(13, .int 0), (12, .int 0), (11, .int 0), (10, .int 0), (9, .int 0), (2, .int 6), (8, .int 1), (7, .int q9.1), (5, .long q8.1), (4, .int x4_7), (0, .ref b), (1, .ref (B + 0)), (3, .int v3)]) hx hb dL_law_188 hl (by decide) rfl (fun ls hl => ?_)
                            exact ih.2 _ _ _ _ _ _ _ _ _ _ _ hM (lv_sub hl [10, 11, 5, 12, 4, 3, 2, 1, 0] rfl) h
                          · replace h := if_h c117 h
                            refine lv_iconst (v := 1) hx hb dL_law_171 (by decide) ?_
                            refine lv_goto (tgt := 176) hx hb dL_law_172 (by decide) ?_
                            refine lv_istore (lv' := [(9, .int 1), (2, .int 6), (8, .int 1), (7, .int q9.1), (5, .long q8.1), (4, .int x4_7), (0, .ref b), (1, .ref (B + 0)), (3, .int v3)]) hx hb dL_law_176 hl (by decide) rfl (fun ls hl => ?_)
                            refine lv_iconst (v := 0) hx hb dL_law_178 (by decide) ?_
                            refine lv_istore (lv' := [(10, .int 0), (9, .int 1), (2, .int 6), (8, .int 1), (7, .int q9.1), (5, .long q8.1), (4, .int x4_7), (0, .ref b), (1, .ref (B + 0)), (3, .int v3)]) hx hb dL_law_179 hl (by decide) rfl (fun ls hl => ?_)
                            refine lv_iconst (v := 0) hx hb dL_law_181 (by decide) ?_
                            refine lv_istore (lv' := [(11, .int 0), (10, .int 0), (9, .int 1), (2, .int 6), (8, .int 1), (7, .int q9.1), (5, .long q8.1), (4, .int x4_7), (0, .ref b), (1, .ref (B + 0)), (3, .int v3)]) hx hb dL_law_182 hl (by decide) rfl (fun ls hl => ?_)
                            refine lv_iconst (v := 0) hx hb dL_law_184 (by decide) ?_
                            refine lv_istore (lv' := [(12, .int 0), (11, .int 0), (10, .int 0), (9, .int 1), (2, .int 6), (8, .int 1), (7, .int q9.1), (5, .long q8.1), (4, .int x4_7), (0, .ref b), (1, .ref (B + 0)), (3, .int v3)]) hx hb dL_law_185 hl (by decide) rfl (fun ls hl => ?_)
                            refine lv_iconst (v := 0) hx hb dL_law_187 (by decide) ?_
                            refine lv_istore (lv' := [(13, .int 0), (12, .int 0), (11, .int 0), (10, .int 0), (9, .int 1), (2, .int 6), (8, .int 1), (7, .int q9.1), (5, .long q8.1), (4, .int x4_7), (0, .ref b), (1, .ref (B + 0)), (3, .int v3)]) hx hb dL_law_188 hl (by decide) rfl (fun ls hl => ?_)
                            exact ih.2 _ _ _ _ _ _ _ _ _ _ _ hM (lv_sub hl [10, 11, 5, 12, 4, 3, 2, 1, 0] rfl) h
                    · replace h := if_h c114 h
                      refine lv_iconst (v := 0) hx hb dL_law_144 (by decide) ?_
                      obtain rfl := Option.some.inj h
                      exact absurd (show (0 : Int32) = 1 from hq) (by decide)
                  · replace h := it_h c112 h
                    refine lv_aload_n hx hb dL_law_109 rfl (lv_at hl 6 rfl) ?_
                    obtain ⟨q118, eq118, h⟩ := bd_h h
                    refine l_callV (As := []) CX hM (kdl (show kd 0 = 6 from rfl) rfl) (ly6 (show kd 0 = 6 from rfl) _) rfl lk_L_80 (c_X6_undo l E B (show kd 0 = 6 from rfl) eq118) ⟨rfl, rfl, by decide, by decide⟩ rfl hl.1 rfl (Nat.le_of_ble_eq_true rfl) dL_law_110 (fun H locs hM => ?_)
                    refine W.eq (g2 := F0 m 113 ls [.int q118.1]) rfl ?_
                    refine lv_iload_n hx hb dL_law_113 rfl (lv_at hl 0 rfl) ?_
                    refine lv_iconst (v := 1) hx hb dL_law_114 (by decide) ?_
                    refine lv_isub hx hb dL_law_115 ?_
                    refine lv_icmp_ne (tgt := 129) hx hb dL_law_116 (by decide) (fun c119 => ?_) (fun c119 => ?_)
                    · replace h := if_h c119 h
                      refine lv_iconst (v := 0) hx hb dL_law_129 (by decide) ?_
                      obtain rfl := Option.some.inj h
                      exact absurd (show (0 : Int32) = 1 from hq) (by decide)
                    · replace h := it_h c119 h
                      refine lv_aload_n hx hb dL_law_119 rfl (lv_at hl 6 rfl) ?_
                      obtain ⟨q120, eq120, h⟩ := bd_h h
                      refine l_callS (As := [.ref (B + 0)]) CX hM lk_L_71 (c_L_tale l E B (show kd 0 = 6 from rfl) eq120) ⟨rfl, rfl, by decide, by decide⟩ rfl hl.1 rfl (Nat.le_of_ble_eq_true rfl) dL_law_120 (fun H locs hM => ?_)
                      refine W.eq (g2 := F0 m 123 ls [.long q120.1]) rfl ?_
                      refine lv_lload hx hb dL_law_123 (lv_at hl 3 rfl) ?_
                      refine W.lcmp hx hb dL_law_125 ?_
                      refine lv_if_eq (tgt := 131) hx hb dL_law_126 (by decide) (fun c121 => ?_) (fun c121 => ?_)
                      · replace h := it_h c121 h
                        refine lv_iinc (v := (6 + (-1))) (lv' := [(2, .int (6 + (-1))), (8, .int 1), (7, .int q9.1), (5, .long q8.1), (4, .int x4_7), (0, .ref b), (1, .ref (B + 0)), (3, .int v3)]) hx hb dL_law_131 hl (k := 0) rfl rfl (by decide) rfl (fun ls hl => ?_)
                        refine lv_aload_n hx hb dL_law_134 rfl (lv_at hl 6 rfl) ?_
                        refine lv_bipush (v := 13) hx hb dL_law_135 (by decide) ?_
                        obtain ⟨q122, eq122, h⟩ := bd_h h
                        refine l_callV (As := [.int 13]) CX hM (kdl (show kd 0 = 6 from rfl) rfl) (ly6 (show kd 0 = 6 from rfl) _) rfl lk_L_12 (c_X6_count l E B (show kd 0 = 6 from rfl) eq122) ⟨rfl, rfl, by decide, by decide⟩ rfl hl.1 rfl (Nat.le_of_ble_eq_true rfl) dL_law_137 (fun H locs hM => ?_)
                        refine W.eq (g2 := F0 m 140 ls [.int q122.1]) rfl ?_
                        refine lv_iload_n hx hb dL_law_140 rfl (lv_at hl 0 rfl) ?_
                        refine lv_icmp_eq (tgt := 146) hx hb dL_law_141 (by decide) (fun c123 => ?_) (fun c123 => ?_)
                        · replace h := it_h c123 h
                          refine lv_iload hx hb dL_law_146 (lv_at hl 1 rfl) ?_
                          refine lv_if_eq (tgt := 175) hx hb dL_law_148 (by decide) (fun c124 => ?_) (fun c124 => ?_)
                          · exact absurd c124 (by decide)
                          · refine lv_iload hx hb dL_law_151 (lv_at hl 4 rfl) ?_
                            refine lv_bipush (v := 15) hx hb dL_law_153 (by decide) ?_
                            refine lv_iand hx hb dL_law_155 ?_
                            refine lv_bipush (v := 8) hx hb dL_law_156 (by decide) ?_
                            refine lv_icmp_le (tgt := 175) hx hb dL_law_158 (by decide) (fun c125 => ?_) (fun c125 => ?_)
                            · replace h := it_h c125 h
                              refine lv_iconst (v := 0) hx hb dL_law_175 (by decide) ?_
                              refine lv_istore (lv' := [(9, .int 0), (2, .int (6 + (-1))), (8, .int 1), (7, .int q9.1), (5, .long q8.1), (4, .int x4_7), (0, .ref b), (1, .ref (B + 0)), (3, .int v3)]) hx hb dL_law_176 hl (by decide) rfl (fun ls hl => ?_)
                              refine lv_iconst (v := 0) hx hb dL_law_178 (by decide) ?_
                              refine lv_istore (lv' := [(10, .int 0), (9, .int 0), (2, .int (6 + (-1))), (8, .int 1), (7, .int q9.1), (5, .long q8.1), (4, .int x4_7), (0, .ref b), (1, .ref (B + 0)), (3, .int v3)]) hx hb dL_law_179 hl (by decide) rfl (fun ls hl => ?_)
                              refine lv_iconst (v := 0) hx hb dL_law_181 (by decide) ?_
                              refine lv_istore (lv' := [(11, .int 0), (10, .int 0), (9, .int 0), (2, .int (6 + (-1))), (8, .int 1), (7, .int q9.1), (5, .long q8.1), (4, .int x4_7), (0, .ref b), (1, .ref (B + 0)), (3, .int v3)]) hx hb dL_law_182 hl (by decide) rfl (fun ls hl => ?_)
                              refine lv_iconst (v := 0) hx hb dL_law_184 (by decide) ?_
                              refine lv_istore (lv' := [(12, .int 0), (11, .int 0), (10, .int 0), (9, .int 0), (2, .int (6 + (-1))), (8, .int 1), (7, .int q9.1), (5, .long q8.1), (4, .int x4_7), (0, .ref b), (1, .ref (B + 0)), (3, .int v3)]) hx hb dL_law_185 hl (by decide) rfl (fun ls hl => ?_)
                              refine lv_iconst (v := 0) hx hb dL_law_187 (by decide) ?_
                              refine lv_istore (lv' := [(13, .int 0), (12, .int 0), (11, .int 0), (10, .int 0), (9, .int 0), (2, .int (6 + (-1))), (8, .int 1), (7, .int q9.1), (5, .long q8.1), (4, .int x4_7), (0, .ref b), (1, .ref (B + 0)), (3, .int v3)]) hx hb dL_law_188 hl (by decide) rfl (fun ls hl => ?_)
                              exact ih.2 _ _ _ _ _ _ _ _ _ _ _ hM (lv_sub hl [10, 11, 5, 12, 4, 3, 2, 1, 0] rfl) h
                            · replace h := if_h c125 h
                              refine lv_iload hx hb dL_law_161 (lv_at hl 4 rfl) ?_
                              refine lv_bipush (v := 28) hx hb dL_law_163 (by decide) ?_
                              refine lv_ishr hx hb dL_law_165 ?_
                              refine lv_iconst (v := 3) hx hb dL_law_166 (by decide) ?_
                              refine lv_iand hx hb dL_law_167 ?_
                              refine lv_if_eq (tgt := 175) hx hb dL_law_168 (by decide) (fun c126 => ?_) (fun c126 => ?_)
                              · replace h := it_h c126 h
                                refine lv_iconst (v := 0) hx hb dL_law_175 (by decide) ?_
                                refine lv_istore (lv' := [(9, .int 0), (2, .int (6 + (-1))), (8, .int 1), (7, .int q9.1), (5, .long q8.1), (4, .int x4_7), (0, .ref b), (1, .ref (B + 0)), (3, .int v3)]) hx hb dL_law_176 hl (by decide) rfl (fun ls hl => ?_)
                                refine lv_iconst (v := 0) hx hb dL_law_178 (by decide) ?_
                                refine lv_istore (lv' := [(10, .int 0), (9, .int 0), (2, .int (6 + (-1))), (8, .int 1), (7, .int q9.1), (5, .long q8.1), (4, .int x4_7), (0, .ref b), (1, .ref (B + 0)), (3, .int v3)]) hx hb dL_law_179 hl (by decide) rfl (fun ls hl => ?_)
                                refine lv_iconst (v := 0) hx hb dL_law_181 (by decide) ?_
                                refine lv_istore (lv' := [(11, .int 0), (10, .int 0), (9, .int 0), (2, .int (6 + (-1))), (8, .int 1), (7, .int q9.1), (5, .long q8.1), (4, .int x4_7), (0, .ref b), (1, .ref (B + 0)), (3, .int v3)]) hx hb dL_law_182 hl (by decide) rfl (fun ls hl => ?_)
                                refine lv_iconst (v := 0) hx hb dL_law_184 (by decide) ?_
                                refine lv_istore (lv' := [(12, .int 0), (11, .int 0), (10, .int 0), (9, .int 0), (2, .int (6 + (-1))), (8, .int 1), (7, .int q9.1), (5, .long q8.1), (4, .int x4_7), (0, .ref b), (1, .ref (B + 0)), (3, .int v3)]) hx hb dL_law_185 hl (by decide) rfl (fun ls hl => ?_)
                                refine lv_iconst (v := 0) hx hb dL_law_187 (by decide) ?_
                                refine lv_istore (lv' := [(13, .int 0), (12, .int 0), (11, .int 0), (10, .int 0), (9, .int 0), (2, .int (6 + (-1))), (8, .int 1), (7, .int q9.1), (5, .long q8.1), (4, .int x4_7), (0, .ref b), (1, .ref (B + 0)), (3, .int v3)]) hx hb dL_law_188 hl (by decide) rfl (fun ls hl => ?_)
                                exact ih.2 _ _ _ _ _ _ _ _ _ _ _ hM (lv_sub hl [10, 11, 5, 12, 4, 3, 2, 1, 0] rfl) h
                              · replace h := if_h c126 h
                                refine lv_iconst (v := 1) hx hb dL_law_171 (by decide) ?_
                                refine lv_goto (tgt := 176) hx hb dL_law_172 (by decide) ?_
                                refine lv_istore (lv' := [(9, .int 1), (2, .int (6 + (-1))), (8, .int 1), (7, .int q9.1), (5, .long q8.1), (4, .int x4_7), (0, .ref b), (1, .ref (B + 0)), (3, .int v3)]) hx hb dL_law_176 hl (by decide) rfl (fun ls hl => ?_)
                                refine lv_iconst (v := 0) hx hb dL_law_178 (by decide) ?_
                                refine lv_istore (lv' := [(10, .int 0), (9, .int 1), (2, .int (6 + (-1))), (8, .int 1), (7, .int q9.1), (5, .long q8.1), (4, .int x4_7), (0, .ref b), (1, .ref (B + 0)), (3, .int v3)]) hx hb dL_law_179 hl (by decide) rfl (fun ls hl => ?_)
                                refine lv_iconst (v := 0) hx hb dL_law_181 (by decide) ?_
                                refine lv_istore (lv' := [(11, .int 0), (10, .int 0), (9, .int 1), (2, .int (6 + (-1))), (8, .int 1), (7, .int q9.1), (5, .long q8.1), (4, .int x4_7), (0, .ref b), (1, .ref (B + 0)), (3, .int v3)]) hx hb dL_law_182 hl (by decide) rfl (fun ls hl => ?_)
                                refine lv_iconst (v := 0) hx hb dL_law_184 (by decide) ?_
                                refine lv_istore (lv' := [(12, .int 0), (11, .int 0), (10, .int 0), (9, .int 1), (2, .int (6 + (-1))), (8, .int 1), (7, .int q9.1), (5, .long q8.1), (4, .int x4_7), (0, .ref b), (1, .ref (B + 0)), (3, .int v3)]) hx hb dL_law_185 hl (by decide) rfl (fun ls hl => ?_)
                                refine lv_iconst (v := 0) hx hb dL_law_187 (by decide) ?_
                                refine lv_istore (lv' := [(13, .int 0), (12, .int 0), (11, .int 0), (10, .int 0), (9, .int 1), (2, .int (6 + (-1))), (8, .int 1), (7, .int q9.1), (5, .long q8.1), (4, .int x4_7), (0, .ref b), (1, .ref (B + 0)), (3, .int v3)]) hx hb dL_law_188 hl (by decide) rfl (fun ls hl => ?_)
                                exact ih.2 _ _ _ _ _ _ _ _ _ _ _ hM (lv_sub hl [10, 11, 5, 12, 4, 3, 2, 1, 0] rfl) h
                        · replace h := if_h c123 h
                          refine lv_iconst (v := 0) hx hb dL_law_144 (by decide) ?_
                          obtain rfl := Option.some.inj h
                          exact absurd (show (0 : Int32) = 1 from hq) (by decide)
                      · replace h := if_h c121 h
                        refine lv_iconst (v := 0) hx hb dL_law_129 (by decide) ?_
                        obtain rfl := Option.some.inj h
                        exact absurd (show (0 : Int32) = 1 from hq) (by decide)
              · replace h := if_h c110 h
                refine lv_iload_n hx hb dL_law_85 rfl (lv_at hl 6 rfl) ?_
                refine lv_iconst (v := 1) hx hb dL_law_86 (by decide) ?_
                refine lv_iadd hx hb dL_law_87 ?_
                refine lv_goto (tgt := 93) hx hb dL_law_88 (by decide) ?_
                refine lv_topi (fun x2_127 ex2_127 => ?_)
                replace h := nm_h ex2_127 h
                refine lv_istore_n (lv' := [(2, .int x2_127), (8, .int 1), (7, .int q9.1), (5, .long q8.1), (4, .int x4_7), (0, .ref b), (1, .ref (B + 0)), (3, .int v3)]) hx hb dL_law_93 rfl hl (by decide) rfl (fun ls hl => ?_)
                refine lv_iload hx hb dL_law_94 (lv_at hl 1 rfl) ?_
                refine lv_if_eq (tgt := 134) hx hb dL_law_96 (by decide) (fun c128 => ?_) (fun c128 => ?_)
                · exact absurd c128 (by decide)
                · refine lv_iload hx hb dL_law_99 (lv_at hl 4 rfl) ?_
                  refine lv_bipush (v := 28) hx hb dL_law_101 (by decide) ?_
                  refine lv_ishr hx hb dL_law_103 ?_
                  refine lv_iconst (v := 3) hx hb dL_law_104 (by decide) ?_
                  refine lv_iand hx hb dL_law_105 ?_
                  refine lv_if_ne (tgt := 134) hx hb dL_law_106 (by decide) (fun c129 => ?_) (fun c129 => ?_)
                  · replace h := if_h c129 h
                    refine lv_aload_n hx hb dL_law_134 rfl (lv_at hl 6 rfl) ?_
                    refine lv_bipush (v := 13) hx hb dL_law_135 (by decide) ?_
                    obtain ⟨q130, eq130, h⟩ := bd_h h
                    refine l_callV (As := [.int 13]) CX hM (kdl (show kd 0 = 6 from rfl) rfl) (ly6 (show kd 0 = 6 from rfl) _) rfl lk_L_12 (c_X6_count l E B (show kd 0 = 6 from rfl) eq130) ⟨rfl, rfl, by decide, by decide⟩ rfl hl.1 rfl (Nat.le_of_ble_eq_true rfl) dL_law_137 (fun H locs hM => ?_)
                    refine W.eq (g2 := F0 m 140 ls [.int q130.1]) rfl ?_
                    refine lv_iload_n hx hb dL_law_140 rfl (lv_at hl 0 rfl) ?_
                    refine lv_icmp_eq (tgt := 146) hx hb dL_law_141 (by decide) (fun c131 => ?_) (fun c131 => ?_)
                    · replace h := it_h c131 h
                      refine lv_iload hx hb dL_law_146 (lv_at hl 1 rfl) ?_
                      refine lv_if_eq (tgt := 175) hx hb dL_law_148 (by decide) (fun c132 => ?_) (fun c132 => ?_)
                      · exact absurd c132 (by decide)
                      · refine lv_iload hx hb dL_law_151 (lv_at hl 4 rfl) ?_
                        refine lv_bipush (v := 15) hx hb dL_law_153 (by decide) ?_
                        refine lv_iand hx hb dL_law_155 ?_
                        refine lv_bipush (v := 8) hx hb dL_law_156 (by decide) ?_
                        refine lv_icmp_le (tgt := 175) hx hb dL_law_158 (by decide) (fun c133 => ?_) (fun c133 => ?_)
                        · replace h := it_h c133 h
                          refine lv_iconst (v := 0) hx hb dL_law_175 (by decide) ?_
                          refine lv_istore (lv' := [(9, .int 0), (2, .int x2_127), (8, .int 1), (7, .int q9.1), (5, .long q8.1), (4, .int x4_7), (0, .ref b), (1, .ref (B + 0)), (3, .int v3)]) hx hb dL_law_176 hl (by decide) rfl (fun ls hl => ?_)
                          refine lv_iconst (v := 0) hx hb dL_law_178 (by decide) ?_
                          refine lv_istore (lv' := [(10, .int 0), (9, .int 0), (2, .int x2_127), (8, .int 1), (7, .int q9.1), (5, .long q8.1), (4, .int x4_7), (0, .ref b), (1, .ref (B + 0)), (3, .int v3)]) hx hb dL_law_179 hl (by decide) rfl (fun ls hl => ?_)
                          refine lv_iconst (v := 0) hx hb dL_law_181 (by decide) ?_
                          refine lv_istore (lv' := [(11, .int 0), (10, .int 0), (9, .int 0), (2, .int x2_127), (8, .int 1), (7, .int q9.1), (5, .long q8.1), (4, .int x4_7), (0, .ref b), (1, .ref (B + 0)), (3, .int v3)]) hx hb dL_law_182 hl (by decide) rfl (fun ls hl => ?_)
                          refine lv_iconst (v := 0) hx hb dL_law_184 (by decide) ?_
                          refine lv_istore (lv' := [(12, .int 0), (11, .int 0), (10, .int 0), (9, .int 0), (2, .int x2_127), (8, .int 1), (7, .int q9.1), (5, .long q8.1), (4, .int x4_7), (0, .ref b), (1, .ref (B + 0)), (3, .int v3)]) hx hb dL_law_185 hl (by decide) rfl (fun ls hl => ?_)
                          refine lv_iconst (v := 0) hx hb dL_law_187 (by decide) ?_
                          refine lv_istore (lv' := [(13, .int 0), (12, .int 0), (11, .int 0), (10, .int 0), (9, .int 0), (2, .int x2_127), (8, .int 1), (7, .int q9.1), (5, .long q8.1), (4, .int x4_7), (0, .ref b), (1, .ref (B + 0)), (3, .int v3)]) hx hb dL_law_188 hl (by decide) rfl (fun ls hl => ?_)
                          exact ih.2 _ _ _ _ _ _ _ _ _ _ _ hM (lv_sub hl [10, 11, 5, 12, 4, 3, 2, 1, 0] rfl) h
                        · replace h := if_h c133 h
                          refine lv_iload hx hb dL_law_161 (lv_at hl 4 rfl) ?_
                          refine lv_bipush (v := 28) hx hb dL_law_163 (by decide) ?_
                          refine lv_ishr hx hb dL_law_165 ?_
                          refine lv_iconst (v := 3) hx hb dL_law_166 (by decide) ?_
                          refine lv_iand hx hb dL_law_167 ?_
                          refine lv_if_eq (tgt := 175) hx hb dL_law_168 (by decide) (fun c134 => ?_) (fun c134 => ?_)
                          · replace h := it_h c134 h
                            refine lv_iconst (v := 0) hx hb dL_law_175 (by decide) ?_
                            refine lv_istore (lv' := [(9, .int 0), (2, .int x2_127), (8, .int 1), (7, .int q9.1), (5, .long q8.1), (4, .int x4_7), (0, .ref b), (1, .ref (B + 0)), (3, .int v3)]) hx hb dL_law_176 hl (by decide) rfl (fun ls hl => ?_)
                            refine lv_iconst (v := 0) hx hb dL_law_178 (by decide) ?_
                            refine lv_istore (lv' := [(10, .int 0), (9, .int 0), (2, .int x2_127), (8, .int 1), (7, .int q9.1), (5, .long q8.1), (4, .int x4_7), (0, .ref b), (1, .ref (B + 0)), (3, .int v3)]) hx hb dL_law_179 hl (by decide) rfl (fun ls hl => ?_)
                            refine lv_iconst (v := 0) hx hb dL_law_181 (by decide) ?_
                            refine lv_istore (lv' := [(11, .int 0), (10, .int 0), (9, .int 0), (2, .int x2_127), (8, .int 1), (7, .int q9.1), (5, .long q8.1), (4, .int x4_7), (0, .ref b), (1, .ref (B + 0)), (3, .int v3)]) hx hb dL_law_182 hl (by decide) rfl (fun ls hl => ?_)
                            refine lv_iconst (v := 0) hx hb dL_law_184 (by decide) ?_
                            refine lv_istore (lv' := [(12, .int 0), (11, .int 0), (10, .int 0), (9, .int 0), (2, .int x2_127), (8, .int 1), (7, .int q9.1), (5, .long q8.1), (4, .int x4_7), (0, .ref b), (1, .ref (B + 0)), (3, .int v3)]) hx hb dL_law_185 hl (by decide) rfl (fun ls hl => ?_)
                            refine lv_iconst (v := 0) hx hb dL_law_187 (by decide) ?_
                            refine lv_istore (lv' := [(13, .int 0), (12, .int 0), (11, .int 0), (10, .int 0), (9, .int 0), (2, .int x2_127), (8, .int 1), (7, .int q9.1), (5, .long q8.1), (4, .int x4_7), (0, .ref b), (1, .ref (B + 0)), (3, .int v3)]) hx hb dL_law_188 hl (by decide) rfl (fun ls hl => ?_)
                            exact ih.2 _ _ _ _ _ _ _ _ _ _ _ hM (lv_sub hl [10, 11, 5, 12, 4, 3, 2, 1, 0] rfl) h
                          · replace h := if_h c134 h
                            refine lv_iconst (v := 1) hx hb dL_law_171 (by decide) ?_
                            refine lv_goto (tgt := 176) hx hb dL_law_172 (by decide) ?_
                            refine lv_istore (lv' := [(9, .int 1), (2, .int x2_127), (8, .int 1), (7, .int q9.1), (5, .long q8.1), (4, .int x4_7), (0, .ref b), (1, .ref (B + 0)), (3, .int v3)]) hx hb dL_law_176 hl (by decide) rfl (fun ls hl => ?_)
                            refine lv_iconst (v := 0) hx hb dL_law_178 (by decide) ?_
                            refine lv_istore (lv' := [(10, .int 0), (9, .int 1), (2, .int x2_127), (8, .int 1), (7, .int q9.1), (5, .long q8.1), (4, .int x4_7), (0, .ref b), (1, .ref (B + 0)), (3, .int v3)]) hx hb dL_law_179 hl (by decide) rfl (fun ls hl => ?_)
                            refine lv_iconst (v := 0) hx hb dL_law_181 (by decide) ?_
                            refine lv_istore (lv' := [(11, .int 0), (10, .int 0), (9, .int 1), (2, .int x2_127), (8, .int 1), (7, .int q9.1), (5, .long q8.1), (4, .int x4_7), (0, .ref b), (1, .ref (B + 0)), (3, .int v3)]) hx hb dL_law_182 hl (by decide) rfl (fun ls hl => ?_)
                            refine lv_iconst (v := 0) hx hb dL_law_184 (by decide) ?_
                            refine lv_istore (lv' := [(12, .int 0), (11, .int 0), (10, .int 0), (9, .int 1), (2, .int x2_127), (8, .int 1), (7, .int q9.1), (5, .long q8.1), (4, .int x4_7), (0, .ref b), (1, .ref (B + 0)), (3, .int v3)]) hx hb dL_law_185 hl (by decide) rfl (fun ls hl => ?_)
                            refine lv_iconst (v := 0) hx hb dL_law_187 (by decide) ?_
                            refine lv_istore (lv' := [(13, .int 0), (12, .int 0), (11, .int 0), (10, .int 0), (9, .int 1), (2, .int x2_127), (8, .int 1), (7, .int q9.1), (5, .long q8.1), (4, .int x4_7), (0, .ref b), (1, .ref (B + 0)), (3, .int v3)]) hx hb dL_law_188 hl (by decide) rfl (fun ls hl => ?_)
                            exact ih.2 _ _ _ _ _ _ _ _ _ _ _ hM (lv_sub hl [10, 11, 5, 12, 4, 3, 2, 1, 0] rfl) h
                    · replace h := if_h c131 h
                      refine lv_iconst (v := 0) hx hb dL_law_144 (by decide) ?_
                      obtain rfl := Option.some.inj h
                      exact absurd (show (0 : Int32) = 1 from hq) (by decide)
                  · replace h := it_h c129 h
                    refine lv_aload_n hx hb dL_law_109 rfl (lv_at hl 6 rfl) ?_
                    obtain ⟨q135, eq135, h⟩ := bd_h h
                    refine l_callV (As := []) CX hM (kdl (show kd 0 = 6 from rfl) rfl) (ly6 (show kd 0 = 6 from rfl) _) rfl lk_L_80 (c_X6_undo l E B (show kd 0 = 6 from rfl) eq135) ⟨rfl, rfl, by decide, by decide⟩ rfl hl.1 rfl (Nat.le_of_ble_eq_true rfl) dL_law_110 (fun H locs hM => ?_)
                    refine W.eq (g2 := F0 m 113 ls [.int q135.1]) rfl ?_
                    refine lv_iload_n hx hb dL_law_113 rfl (lv_at hl 0 rfl) ?_
                    refine lv_iconst (v := 1) hx hb dL_law_114 (by decide) ?_
                    refine lv_isub hx hb dL_law_115 ?_
                    refine lv_icmp_ne (tgt := 129) hx hb dL_law_116 (by decide) (fun c136 => ?_) (fun c136 => ?_)
                    · replace h := if_h c136 h
                      refine lv_iconst (v := 0) hx hb dL_law_129 (by decide) ?_
                      obtain rfl := Option.some.inj h
                      exact absurd (show (0 : Int32) = 1 from hq) (by decide)
                    · replace h := it_h c136 h
                      refine lv_aload_n hx hb dL_law_119 rfl (lv_at hl 6 rfl) ?_
                      obtain ⟨q137, eq137, h⟩ := bd_h h
                      refine l_callS (As := [.ref (B + 0)]) CX hM lk_L_71 (c_L_tale l E B (show kd 0 = 6 from rfl) eq137) ⟨rfl, rfl, by decide, by decide⟩ rfl hl.1 rfl (Nat.le_of_ble_eq_true rfl) dL_law_120 (fun H locs hM => ?_)
                      refine W.eq (g2 := F0 m 123 ls [.long q137.1]) rfl ?_
                      refine lv_lload hx hb dL_law_123 (lv_at hl 3 rfl) ?_
                      refine W.lcmp hx hb dL_law_125 ?_
                      refine lv_if_eq (tgt := 131) hx hb dL_law_126 (by decide) (fun c138 => ?_) (fun c138 => ?_)
                      · replace h := it_h c138 h
                        refine lv_iinc (v := (x2_127 + (-1))) (lv' := [(2, .int (x2_127 + (-1))), (8, .int 1), (7, .int q9.1), (5, .long q8.1), (4, .int x4_7), (0, .ref b), (1, .ref (B + 0)), (3, .int v3)]) hx hb dL_law_131 hl (k := 0) rfl rfl (by decide) rfl (fun ls hl => ?_)
                        refine lv_aload_n hx hb dL_law_134 rfl (lv_at hl 6 rfl) ?_
                        refine lv_bipush (v := 13) hx hb dL_law_135 (by decide) ?_
                        obtain ⟨q139, eq139, h⟩ := bd_h h
                        refine l_callV (As := [.int 13]) CX hM (kdl (show kd 0 = 6 from rfl) rfl) (ly6 (show kd 0 = 6 from rfl) _) rfl lk_L_12 (c_X6_count l E B (show kd 0 = 6 from rfl) eq139) ⟨rfl, rfl, by decide, by decide⟩ rfl hl.1 rfl (Nat.le_of_ble_eq_true rfl) dL_law_137 (fun H locs hM => ?_)
                        refine W.eq (g2 := F0 m 140 ls [.int q139.1]) rfl ?_
                        refine lv_iload_n hx hb dL_law_140 rfl (lv_at hl 0 rfl) ?_
                        refine lv_icmp_eq (tgt := 146) hx hb dL_law_141 (by decide) (fun c140 => ?_) (fun c140 => ?_)
                        · replace h := it_h c140 h
                          refine lv_iload hx hb dL_law_146 (lv_at hl 1 rfl) ?_
                          refine lv_if_eq (tgt := 175) hx hb dL_law_148 (by decide) (fun c141 => ?_) (fun c141 => ?_)
                          · exact absurd c141 (by decide)
                          · refine lv_iload hx hb dL_law_151 (lv_at hl 4 rfl) ?_
                            refine lv_bipush (v := 15) hx hb dL_law_153 (by decide) ?_
                            refine lv_iand hx hb dL_law_155 ?_
                            refine lv_bipush (v := 8) hx hb dL_law_156 (by decide) ?_
                            refine lv_icmp_le (tgt := 175) hx hb dL_law_158 (by decide) (fun c142 => ?_) (fun c142 => ?_)
                            · replace h := it_h c142 h
                              refine lv_iconst (v := 0) hx hb dL_law_175 (by decide) ?_
                              refine lv_istore (lv' := [(9, .int 0), (2, .int (x2_127 + (-1))), (8, .int 1), (7, .int q9.1), (5, .long q8.1), (4, .int x4_7), (0, .ref b), (1, .ref (B + 0)), (3, .int v3)]) hx hb dL_law_176 hl (by decide) rfl (fun ls hl => ?_)
                              refine lv_iconst (v := 0) hx hb dL_law_178 (by decide) ?_
                              refine lv_istore (lv' := [(10, .int 0), (9, .int 0), (2, .int (x2_127 + (-1))), (8, .int 1), (7, .int q9.1), (5, .long q8.1), (4, .int x4_7), (0, .ref b), (1, .ref (B + 0)), (3, .int v3)]) hx hb dL_law_179 hl (by decide) rfl (fun ls hl => ?_)
                              refine lv_iconst (v := 0) hx hb dL_law_181 (by decide) ?_
                              refine lv_istore (lv' := [(11, .int 0), (10, .int 0), (9, .int 0), (2, .int (x2_127 + (-1))), (8, .int 1), (7, .int q9.1), (5, .long q8.1), (4, .int x4_7), (0, .ref b), (1, .ref (B + 0)), (3, .int v3)]) hx hb dL_law_182 hl (by decide) rfl (fun ls hl => ?_)
                              refine lv_iconst (v := 0) hx hb dL_law_184 (by decide) ?_
                              refine lv_istore (lv' := [(12, .int 0), (11, .int 0), (10, .int 0), (9, .int 0), (2, .int (x2_127 + (-1))), (8, .int 1), (7, .int q9.1), (5, .long q8.1), (4, .int x4_7), (0, .ref b), (1, .ref (B + 0)), (3, .int v3)]) hx hb dL_law_185 hl (by decide) rfl (fun ls hl => ?_)
                              refine lv_iconst (v := 0) hx hb dL_law_187 (by decide) ?_
                              refine lv_istore (lv' := [(13, .int 0), (12, .int 0), (11, .int 0), (10, .int 0), (9, .int 0), (2, .int (x2_127 + (-1))), (8, .int 1), (7, .int q9.1), (5, .long q8.1), (4, .int x4_7), (0, .ref b), (1, .ref (B + 0)), (3, .int v3)]) hx hb dL_law_188 hl (by decide) rfl (fun ls hl => ?_)
                              exact ih.2 _ _ _ _ _ _ _ _ _ _ _ hM (lv_sub hl [10, 11, 5, 12, 4, 3, 2, 1, 0] rfl) h
                            · replace h := if_h c142 h
                              refine lv_iload hx hb dL_law_161 (lv_at hl 4 rfl) ?_
                              refine lv_bipush (v := 28) hx hb dL_law_163 (by decide) ?_
                              refine lv_ishr hx hb dL_law_165 ?_
                              refine lv_iconst (v := 3) hx hb dL_law_166 (by decide) ?_
                              refine lv_iand hx hb dL_law_167 ?_
                              refine lv_if_eq (tgt := 175) hx hb dL_law_168 (by decide) (fun c143 => ?_) (fun c143 => ?_)
                              · replace h := it_h c143 h
                                refine lv_iconst (v := 0) hx hb dL_law_175 (by decide) ?_
                                refine lv_istore (lv' := [(9, .int 0), (2, .int (x2_127 + (-1))), (8, .int 1), (7, .int q9.1), (5, .long q8.1), (4, .int x4_7), (0, .ref b), (1, .ref (B + 0)), (3, .int v3)]) hx hb dL_law_176 hl (by decide) rfl (fun ls hl => ?_)
                                refine lv_iconst (v := 0) hx hb dL_law_178 (by decide) ?_
                                refine lv_istore (lv' := [(10, .int 0), (9, .int 0), (2, .int (x2_127 + (-1))), (8, .int 1), (7, .int q9.1), (5, .long q8.1), (4, .int x4_7), (0, .ref b), (1, .ref (B + 0)), (3, .int v3)]) hx hb dL_law_179 hl (by decide) rfl (fun ls hl => ?_)
                                refine lv_iconst (v := 0) hx hb dL_law_181 (by decide) ?_
                                refine lv_istore (lv' := [(11, .int 0), (10, .int 0), (9, .int 0), (2, .int (x2_127 + (-1))), (8, .int 1), (7, .int q9.1), (5, .long q8.1), (4, .int x4_7), (0, .ref b), (1, .ref (B + 0)), (3, .int v3)]) hx hb dL_law_182 hl (by decide) rfl (fun ls hl => ?_)
                                refine lv_iconst (v := 0) hx hb dL_law_184 (by decide) ?_
                                refine lv_istore (lv' := [(12, .int 0), (11, .int 0), (10, .int 0), (9, .int 0), (2, .int (x2_127 + (-1))), (8, .int 1), (7, .int q9.1), (5, .long q8.1), (4, .int x4_7), (0, .ref b), (1, .ref (B + 0)), (3, .int v3)]) hx hb dL_law_185 hl (by decide) rfl (fun ls hl => ?_)
                                refine lv_iconst (v := 0) hx hb dL_law_187 (by decide) ?_
                                refine lv_istore (lv' := [(13, .int 0), (12, .int 0), (11, .int 0), (10, .int 0), (9, .int 0), (2, .int (x2_127 + (-1))), (8, .int 1), (7, .int q9.1), (5, .long q8.1), (4, .int x4_7), (0, .ref b), (1, .ref (B + 0)), (3, .int v3)]) hx hb dL_law_188 hl (by decide) rfl (fun ls hl => ?_)
                                exact ih.2 _ _ _ _ _ _ _ _ _ _ _ hM (lv_sub hl [10, 11, 5, 12, 4, 3, 2, 1, 0] rfl) h
                              · replace h := if_h c143 h
                                refine lv_iconst (v := 1) hx hb dL_law_171 (by decide) ?_
                                refine lv_goto (tgt := 176) hx hb dL_law_172 (by decide) ?_
                                refine lv_istore (lv' := [(9, .int 1), (2, .int (x2_127 + (-1))), (8, .int 1), (7, .int q9.1), (5, .long q8.1), (4, .int x4_7), (0, .ref b), (1, .ref (B + 0)), (3, .int v3)]) hx hb dL_law_176 hl (by decide) rfl (fun ls hl => ?_)
                                refine lv_iconst (v := 0) hx hb dL_law_178 (by decide) ?_
                                refine lv_istore (lv' := [(10, .int 0), (9, .int 1), (2, .int (x2_127 + (-1))), (8, .int 1), (7, .int q9.1), (5, .long q8.1), (4, .int x4_7), (0, .ref b), (1, .ref (B + 0)), (3, .int v3)]) hx hb dL_law_179 hl (by decide) rfl (fun ls hl => ?_)
                                refine lv_iconst (v := 0) hx hb dL_law_181 (by decide) ?_
                                refine lv_istore (lv' := [(11, .int 0), (10, .int 0), (9, .int 1), (2, .int (x2_127 + (-1))), (8, .int 1), (7, .int q9.1), (5, .long q8.1), (4, .int x4_7), (0, .ref b), (1, .ref (B + 0)), (3, .int v3)]) hx hb dL_law_182 hl (by decide) rfl (fun ls hl => ?_)
                                refine lv_iconst (v := 0) hx hb dL_law_184 (by decide) ?_
                                refine lv_istore (lv' := [(12, .int 0), (11, .int 0), (10, .int 0), (9, .int 1), (2, .int (x2_127 + (-1))), (8, .int 1), (7, .int q9.1), (5, .long q8.1), (4, .int x4_7), (0, .ref b), (1, .ref (B + 0)), (3, .int v3)]) hx hb dL_law_185 hl (by decide) rfl (fun ls hl => ?_)
                                refine lv_iconst (v := 0) hx hb dL_law_187 (by decide) ?_
                                refine lv_istore (lv' := [(13, .int 0), (12, .int 0), (11, .int 0), (10, .int 0), (9, .int 1), (2, .int (x2_127 + (-1))), (8, .int 1), (7, .int q9.1), (5, .long q8.1), (4, .int x4_7), (0, .ref b), (1, .ref (B + 0)), (3, .int v3)]) hx hb dL_law_188 hl (by decide) rfl (fun ls hl => ?_)
                                exact ih.2 _ _ _ _ _ _ _ _ _ _ _ hM (lv_sub hl [10, 11, 5, 12, 4, 3, 2, 1, 0] rfl) h
                        · replace h := if_h c140 h
                          refine lv_iconst (v := 0) hx hb dL_law_144 (by decide) ?_
                          obtain rfl := Option.some.inj h
                          exact absurd (show (0 : Int32) = 1 from hq) (by decide)
                      · replace h := if_h c138 h
                        refine lv_iconst (v := 0) hx hb dL_law_129 (by decide) ?_
                        obtain rfl := Option.some.inj h
                        exact absurd (show (0 : Int32) = 1 from hq) (by decide)
            · exact absurd c109 (by decide)
          · exact absurd c108 (by decide)
    · intro v2 v3 v9 v10 v11 v12 v13 σ H locs ls hM hl h
      rw [F_L_law_LL] at h
      replace h := if_h (by decide) h
      refine lv_iload hx hb dL_law_190 (lv_at hl 8 rfl) ?_
      refine lv_aload_n hx hb dL_law_192 rfl (lv_at hl 1 rfl) ?_
      refine lv_bipush (v := 7) hx hb dL_law_193 (by decide) ?_
      obtain ⟨q19, eq19, h⟩ := bd_h h
      refine l_callV (As := [.int 7]) CX hM (kdl (show kd 0 = 6 from rfl) rfl) (ly6 (show kd 0 = 6 from rfl) _) rfl lk_L_12 (c_X6_count l E B (show kd 0 = 6 from rfl) eq19) ⟨rfl, rfl, by decide, by decide⟩ rfl hl.1 rfl (Nat.le_of_ble_eq_true rfl) dL_law_195 (fun H locs hM => ?_)
      refine W.eq (g2 := F0 m 198 ls [.int q19.1, .int v13]) rfl ?_
      refine lv_icmp_ge (tgt := 372) hx hb dL_law_198 (by decide) (fun c20 => ?_) (fun c20 => ?_)
      · replace h := it_h c20 h
        refine lv_iload hx hb dL_law_372 (lv_at hl 5 rfl) ?_
        refine lv_if_ne (tgt := 399) hx hb dL_law_374 (by decide) (fun c21 => ?_) (fun c21 => ?_)
        · replace h := if_h c21 h
          refine lv_iconst (v := 0) hx hb dL_law_399 (by decide) ?_
          obtain rfl := Option.some.inj h
          exact absurd (show (0 : Int32) = 1 from hq) (by decide)
        · replace h := it_h c21 h
          refine lv_iload hx hb dL_law_377 (lv_at hl 6 rfl) ?_
          refine lv_aload_n hx hb dL_law_379 rfl (lv_at hl 1 rfl) ?_
          refine lv_bipush (v := 10) hx hb dL_law_380 (by decide) ?_
          obtain ⟨q22, eq22, h⟩ := bd_h h
          refine l_callV (As := [.int 10]) CX hM (kdl (show kd 0 = 6 from rfl) rfl) (ly6 (show kd 0 = 6 from rfl) _) rfl lk_L_12 (c_X6_count l E B (show kd 0 = 6 from rfl) eq22) ⟨rfl, rfl, by decide, by decide⟩ rfl hl.1 rfl (Nat.le_of_ble_eq_true rfl) dL_law_382 (fun H locs hM => ?_)
          refine W.eq (g2 := F0 m 385 ls [.int q22.1, .int v11]) rfl ?_
          refine lv_icmp_ne (tgt := 399) hx hb dL_law_385 (by decide) (fun c23 => ?_) (fun c23 => ?_)
          · replace h := if_h c23 h
            refine lv_iconst (v := 0) hx hb dL_law_399 (by decide) ?_
            obtain rfl := Option.some.inj h
            exact absurd (show (0 : Int32) = 1 from hq) (by decide)
          · replace h := it_h c23 h
            refine lv_iload hx hb dL_law_388 (lv_at hl 7 rfl) ?_
            refine lv_aload_n hx hb dL_law_390 rfl (lv_at hl 1 rfl) ?_
            refine lv_bipush (v := 11) hx hb dL_law_391 (by decide) ?_
            obtain ⟨q24, eq24, h⟩ := bd_h h
            refine l_callV (As := [.int 11]) CX hM (kdl (show kd 0 = 6 from rfl) rfl) (ly6 (show kd 0 = 6 from rfl) _) rfl lk_L_12 (c_X6_count l E B (show kd 0 = 6 from rfl) eq24) ⟨rfl, rfl, by decide, by decide⟩ rfl hl.1 rfl (Nat.le_of_ble_eq_true rfl) dL_law_393 (fun H locs hM => ?_)
            refine W.eq (g2 := F0 m 396 ls [.int q24.1, .int v12]) rfl ?_
            refine lv_icmp_eq (tgt := 401) hx hb dL_law_396 (by decide) (fun c25 => ?_) (fun c25 => ?_)
            · replace h := it_h c25 h
              refine lv_aload_n hx hb dL_law_401 rfl (lv_at hl 1 rfl) ?_
              obtain ⟨q26, eq26, h⟩ := bd_h h
              refine l_callS (As := [.ref (B + 0)]) CX hM lk_L_71 (c_L_tale l E B (show kd 0 = 6 from rfl) eq26) ⟨rfl, rfl, by decide, by decide⟩ rfl hl.1 rfl (Nat.le_of_ble_eq_true rfl) dL_law_402 (fun H locs hM => ?_)
              refine W.eq (g2 := F0 m 405 ls [.long q26.1]) rfl ?_
              refine lv_lstore (lv' := [(13, .long q26.1), (0, .ref b), (1, .ref (B + 0)), (2, .int v2), (3, .int v3), (9, .int v9), (10, .int v10), (11, .int v11), (12, .int v12)]) hx hb dL_law_405 hl (by decide) rfl (fun ls hl => ?_)
              refine lv_aload_n hx hb dL_law_407 rfl (lv_at hl 2 rfl) ?_
              refine lv_bipush (v := 20) hx hb dL_law_408 (by decide) ?_
              obtain ⟨q27, eq27, h⟩ := bd_h h
              refine l_callV (As := [.int 20]) CX hM (kdl (show kd 0 = 6 from rfl) rfl) (ly6 (show kd 0 = 6 from rfl) _) rfl lk_L_84 (c_X6_heatIn l E B (show kd 0 = 6 from rfl) eq27) ⟨rfl, rfl, by decide, by decide⟩ rfl hl.1 rfl (Nat.le_of_ble_eq_true rfl) dL_law_410 (fun H locs hM => ?_)
              refine W.eq (g2 := F0 m 413 ls [.int q27.1]) rfl ?_
              refine lv_istore (lv' := [(15, .int q27.1), (13, .long q26.1), (0, .ref b), (1, .ref (B + 0)), (2, .int v2), (3, .int v3), (9, .int v9), (10, .int v10), (11, .int v11), (12, .int v12)]) hx hb dL_law_413 hl (by decide) rfl (fun ls hl => ?_)
              refine lv_aload_n hx hb dL_law_415 rfl (lv_at hl 3 rfl) ?_
              refine lv_iconst (v := 0) hx hb dL_law_416 (by decide) ?_
              obtain ⟨q28, eq28, h⟩ := bd_h h
              refine l_callV (As := [.int 0]) CX hM (kdl (show kd 0 = 6 from rfl) rfl) (ly6 (show kd 0 = 6 from rfl) _) rfl lk_L_87 (c_X6_minutesToSuspect l E B (show kd 0 = 6 from rfl) eq28) ⟨rfl, rfl, by decide, by decide⟩ rfl hl.1 rfl (Nat.le_of_ble_eq_true rfl) dL_law_417 (fun H locs hM => ?_)
              refine W.eq (g2 := F0 m 420 ls [.int q28.1]) rfl ?_
              refine lv_istore (lv' := [(16, .int q28.1), (15, .int q27.1), (13, .long q26.1), (0, .ref b), (1, .ref (B + 0)), (2, .int v2), (3, .int v3), (9, .int v9), (10, .int v10), (11, .int v11), (12, .int v12)]) hx hb dL_law_420 hl (by decide) rfl (fun ls hl => ?_)
              refine lv_iload hx hb dL_law_422 (lv_at hl 1 rfl) ?_
              refine lv_if_lt (tgt := 445) hx hb dL_law_424 (by decide) (fun c29 => ?_) (fun c29 => ?_)
              · replace h := it_h c29 h
                refine lv_iconst (v := 0) hx hb dL_law_445 (by decide) ?_
                obtain rfl := Option.some.inj h
                exact absurd (show (0 : Int32) = 1 from hq) (by decide)
              · replace h := if_h c29 h
                refine lv_iload hx hb dL_law_427 (lv_at hl 0 rfl) ?_
                refine lv_sipush (v := 1000) hx hb dL_law_429 (by decide) ?_
                refine lv_icmp_gt (tgt := 445) hx hb dL_law_432 (by decide) (fun c30 => ?_) (fun c30 => ?_)
                · replace h := it_h c30 h
                  refine lv_iconst (v := 0) hx hb dL_law_445 (by decide) ?_
                  obtain rfl := Option.some.inj h
                  exact absurd (show (0 : Int32) = 1 from hq) (by decide)
                · replace h := if_h c30 h
                  refine lv_aload_n hx hb dL_law_435 rfl (lv_at hl 4 rfl) ?_
                  obtain ⟨q31, eq31, h⟩ := bd_h h
                  refine l_callS (As := [.ref (B + 0)]) CX hM lk_L_71 (c_L_tale l E B (show kd 0 = 6 from rfl) eq31) ⟨rfl, rfl, by decide, by decide⟩ rfl hl.1 rfl (Nat.le_of_ble_eq_true rfl) dL_law_436 (fun H locs hM => ?_)
                  refine W.eq (g2 := F0 m 439 ls [.long q31.1]) rfl ?_
                  refine lv_lload hx hb dL_law_439 (lv_at hl 2 rfl) ?_
                  refine W.lcmp hx hb dL_law_441 ?_
                  refine lv_if_eq (tgt := 447) hx hb dL_law_442 (by decide) (fun c32 => ?_) (fun c32 => ?_)
                  · replace h := it_h c32 h
                    refine lv_iinc (v := (v3 + 1)) (lv' := [(3, .int (v3 + 1)), (16, .int q28.1), (15, .int q27.1), (13, .long q26.1), (0, .ref b), (1, .ref (B + 0)), (2, .int v2), (9, .int v9), (10, .int v10), (11, .int v11), (12, .int v12)]) hx hb dL_law_447 hl (k := 6) rfl rfl (by decide) rfl (fun ls hl => ?_)
                    refine lv_goto (tgt := 12) hx hb dL_law_450 (by decide) ?_
                    exact ih.1 _ _ _ _ _ _ hM (lv_sub hl [4, 5, 6, 0] rfl) h
                  · replace h := if_h c32 h
                    refine lv_iconst (v := 0) hx hb dL_law_445 (by decide) ?_
                    obtain rfl := Option.some.inj h
                    exact absurd (show (0 : Int32) = 1 from hq) (by decide)
            · replace h := if_h c25 h
              refine lv_iconst (v := 0) hx hb dL_law_399 (by decide) ?_
              obtain rfl := Option.some.inj h
              exact absurd (show (0 : Int32) = 1 from hq) (by decide)
      · replace h := if_h c20 h
        refine lv_iload hx hb dL_law_201 (lv_at hl 5 rfl) ?_
        refine lv_aload_n hx hb dL_law_203 rfl (lv_at hl 1 rfl) ?_
        refine lv_iload hx hb dL_law_204 (lv_at hl 8 rfl) ?_
        refine lv_iconst (v := 3) hx hb dL_law_206 (by decide) ?_
        obtain ⟨q33, eq33, h⟩ := bd_h h
        refine l_callV (As := [.int v13, .int 3]) CX hM (kdl (show kd 0 = 6 from rfl) rfl) (ly6 (show kd 0 = 6 from rfl) _) rfl lk_L_26 (c_X6_book l E B (show kd 0 = 6 from rfl) eq33) ⟨rfl, rfl, by decide, by decide⟩ rfl hl.1 rfl (Nat.le_of_ble_eq_true rfl) dL_law_207 (fun H locs hM => ?_)
        refine W.eq (g2 := F0 m 210 ls [.int q33.1, .int v10]) rfl ?_
        refine lv_iadd hx hb dL_law_210 ?_
        refine lv_topi (fun x10_34 ex10_34 => ?_)
        replace h := nm_h ex10_34 h
        refine lv_istore (lv' := [(10, .int x10_34), (0, .ref b), (1, .ref (B + 0)), (2, .int v2), (3, .int v3), (9, .int v9), (11, .int v11), (12, .int v12), (13, .int v13)]) hx hb dL_law_211 hl (by decide) rfl (fun ls hl => ?_)
        refine lv_iload hx hb dL_law_213 (lv_at hl 7 rfl) ?_
        refine lv_aload_n hx hb dL_law_215 rfl (lv_at hl 2 rfl) ?_
        refine lv_iload hx hb dL_law_216 (lv_at hl 8 rfl) ?_
        refine lv_bipush (v := 8) hx hb dL_law_218 (by decide) ?_
        obtain ⟨q35, eq35, h⟩ := bd_h h
        refine l_callV (As := [.int v13, .int 8]) CX hM (kdl (show kd 0 = 6 from rfl) rfl) (ly6 (show kd 0 = 6 from rfl) _) rfl lk_L_20 (c_X6_room l E B (show kd 0 = 6 from rfl) eq35) ⟨rfl, rfl, by decide, by decide⟩ rfl hl.1 rfl (Nat.le_of_ble_eq_true rfl) dL_law_220 (fun H locs hM => ?_)
        refine W.eq (g2 := F0 m 223 ls [.int q35.1, .int v12]) rfl ?_
        refine lv_iadd hx hb dL_law_223 ?_
        refine lv_topi (fun x12_36 ex12_36 => ?_)
        replace h := nm_h ex12_36 h
        refine lv_istore (lv' := [(12, .int x12_36), (10, .int x10_34), (0, .ref b), (1, .ref (B + 0)), (2, .int v2), (3, .int v3), (9, .int v9), (11, .int v11), (13, .int v13)]) hx hb dL_law_224 hl (by decide) rfl (fun ls hl => ?_)
        refine lv_iload hx hb dL_law_226 (lv_at hl 7 rfl) ?_
        refine lv_aload_n hx hb dL_law_228 rfl (lv_at hl 3 rfl) ?_
        refine lv_iload hx hb dL_law_229 (lv_at hl 8 rfl) ?_
        refine lv_bipush (v := 9) hx hb dL_law_231 (by decide) ?_
        obtain ⟨q37, eq37, h⟩ := bd_h h
        refine l_callV (As := [.int v13, .int 9]) CX hM (kdl (show kd 0 = 6 from rfl) rfl) (ly6 (show kd 0 = 6 from rfl) _) rfl lk_L_20 (c_X6_room l E B (show kd 0 = 6 from rfl) eq37) ⟨rfl, rfl, by decide, by decide⟩ rfl hl.1 rfl (Nat.le_of_ble_eq_true rfl) dL_law_233 (fun H locs hM => ?_)
        refine W.eq (g2 := F0 m 236 ls [.int q37.1, .int v11]) rfl ?_
        refine lv_aload_n hx hb dL_law_236 rfl (lv_at hl 3 rfl) ?_
        refine lv_bipush (v := 6) hx hb dL_law_237 (by decide) ?_
        obtain ⟨q38, eq38, h⟩ := bd_h h
        refine l_callV (As := [.int 6]) CX hM (kdl (show kd 0 = 6 from rfl) rfl) (ly6 (show kd 0 = 6 from rfl) _) rfl lk_L_12 (c_X6_count l E B (show kd 0 = 6 from rfl) eq38) ⟨rfl, rfl, by decide, by decide⟩ rfl hl.1 rfl (Nat.le_of_ble_eq_true rfl) dL_law_239 (fun H locs hM => ?_)
        refine W.eq (g2 := F0 m 242 ls [.int q38.1, .int q37.1, .int v11]) rfl ?_
        refine lv_icmp_lt (tgt := 249) hx hb dL_law_242 (by decide) (fun c39 => ?_) (fun c39 => ?_)
        · replace h := it_h c39 h
          refine lv_iconst (v := 0) hx hb dL_law_249 (by decide) ?_
          refine lv_iadd hx hb dL_law_250 ?_
          refine lv_topi (fun x11_40 ex11_40 => ?_)
          replace h := nm_h ex11_40 h
          refine lv_istore (lv' := [(11, .int x11_40), (12, .int x12_36), (10, .int x10_34), (0, .ref b), (1, .ref (B + 0)), (2, .int v2), (3, .int v3), (9, .int v9), (13, .int v13)]) hx hb dL_law_251 hl (by decide) rfl (fun ls hl => ?_)
          refine lv_aload_n hx hb dL_law_253 rfl (lv_at hl 4 rfl) ?_
          refine lv_iload hx hb dL_law_254 (lv_at hl 8 rfl) ?_
          refine lv_iconst (v := 1) hx hb dL_law_256 (by decide) ?_
          obtain ⟨q41, eq41, h⟩ := bd_h h
          refine l_callV (As := [.int v13, .int 1]) CX hM (kdl (show kd 0 = 6 from rfl) rfl) (ly6 (show kd 0 = 6 from rfl) _) rfl lk_L_20 (c_X6_room l E B (show kd 0 = 6 from rfl) eq41) ⟨rfl, rfl, by decide, by decide⟩ rfl hl.1 rfl (Nat.le_of_ble_eq_true rfl) dL_law_257 (fun H locs hM => ?_)
          refine W.eq (g2 := F0 m 260 ls [.int q41.1]) rfl ?_
          refine lv_aload_n hx hb dL_law_260 rfl (lv_at hl 4 rfl) ?_
          refine lv_iload hx hb dL_law_261 (lv_at hl 8 rfl) ?_
          refine lv_iconst (v := 0) hx hb dL_law_263 (by decide) ?_
          obtain ⟨q42, eq42, h⟩ := bd_h h
          refine l_callV (As := [.int v13, .int 0]) CX hM (kdl (show kd 0 = 6 from rfl) rfl) (ly6 (show kd 0 = 6 from rfl) _) rfl lk_L_26 (c_X6_book l E B (show kd 0 = 6 from rfl) eq42) ⟨rfl, rfl, by decide, by decide⟩ rfl hl.1 rfl (Nat.le_of_ble_eq_true rfl) dL_law_264 (fun H locs hM => ?_)
          refine W.eq (g2 := F0 m 267 ls [.int q42.1, .int q41.1]) rfl ?_
          refine lv_aload_n hx hb dL_law_267 rfl (lv_at hl 4 rfl) ?_
          refine lv_iload hx hb dL_law_268 (lv_at hl 8 rfl) ?_
          refine lv_iconst (v := 1) hx hb dL_law_270 (by decide) ?_
          obtain ⟨q43, eq43, h⟩ := bd_h h
          refine l_callV (As := [.int v13, .int 1]) CX hM (kdl (show kd 0 = 6 from rfl) rfl) (ly6 (show kd 0 = 6 from rfl) _) rfl lk_L_26 (c_X6_book l E B (show kd 0 = 6 from rfl) eq43) ⟨rfl, rfl, by decide, by decide⟩ rfl hl.1 rfl (Nat.le_of_ble_eq_true rfl) dL_law_271 (fun H locs hM => ?_)
          refine W.eq (g2 := F0 m 274 ls [.int q43.1, .int q42.1, .int q41.1]) rfl ?_
          refine lv_iadd hx hb dL_law_274 ?_
          refine lv_aload_n hx hb dL_law_275 rfl (lv_at hl 4 rfl) ?_
          refine lv_iload hx hb dL_law_276 (lv_at hl 8 rfl) ?_
          refine lv_iconst (v := 2) hx hb dL_law_278 (by decide) ?_
          obtain ⟨q44, eq44, h⟩ := bd_h h
          refine l_callV (As := [.int v13, .int 2]) CX hM (kdl (show kd 0 = 6 from rfl) rfl) (ly6 (show kd 0 = 6 from rfl) _) rfl lk_L_26 (c_X6_book l E B (show kd 0 = 6 from rfl) eq44) ⟨rfl, rfl, by decide, by decide⟩ rfl hl.1 rfl (Nat.le_of_ble_eq_true rfl) dL_law_279 (fun H locs hM => ?_)
          refine W.eq (g2 := F0 m 282 ls [.int q44.1, .int (q42.1 + q43.1), .int q41.1]) rfl ?_
          refine lv_isub hx hb dL_law_282 ?_
          refine lv_aload_n hx hb dL_law_283 rfl (lv_at hl 4 rfl) ?_
          refine lv_iload hx hb dL_law_284 (lv_at hl 8 rfl) ?_
          refine lv_iconst (v := 3) hx hb dL_law_286 (by decide) ?_
          obtain ⟨q45, eq45, h⟩ := bd_h h
          refine l_callV (As := [.int v13, .int 3]) CX hM (kdl (show kd 0 = 6 from rfl) rfl) (ly6 (show kd 0 = 6 from rfl) _) rfl lk_L_26 (c_X6_book l E B (show kd 0 = 6 from rfl) eq45) ⟨rfl, rfl, by decide, by decide⟩ rfl hl.1 rfl (Nat.le_of_ble_eq_true rfl) dL_law_287 (fun H locs hM => ?_)
          refine W.eq (g2 := F0 m 290 ls [.int q45.1, .int ((q42.1 + q43.1) - q44.1), .int q41.1]) rfl ?_
          refine lv_isub hx hb dL_law_290 ?_
          refine lv_aload_n hx hb dL_law_291 rfl (lv_at hl 4 rfl) ?_
          refine lv_iload hx hb dL_law_292 (lv_at hl 8 rfl) ?_
          refine lv_iconst (v := 4) hx hb dL_law_294 (by decide) ?_
          obtain ⟨q46, eq46, h⟩ := bd_h h
          refine l_callV (As := [.int v13, .int 4]) CX hM (kdl (show kd 0 = 6 from rfl) rfl) (ly6 (show kd 0 = 6 from rfl) _) rfl lk_L_26 (c_X6_book l E B (show kd 0 = 6 from rfl) eq46) ⟨rfl, rfl, by decide, by decide⟩ rfl hl.1 rfl (Nat.le_of_ble_eq_true rfl) dL_law_295 (fun H locs hM => ?_)
          refine W.eq (g2 := F0 m 298 ls [.int q46.1, .int (((q42.1 + q43.1) - q44.1) - q45.1), .int q41.1]) rfl ?_
          refine lv_iadd hx hb dL_law_298 ?_
          refine lv_icmp_eq (tgt := 304) hx hb dL_law_299 (by decide) (fun c47 => ?_) (fun c47 => ?_)
          · replace h := it_h c47 h
            refine lv_aload_n hx hb dL_law_304 rfl (lv_at hl 4 rfl) ?_
            refine lv_iload hx hb dL_law_305 (lv_at hl 8 rfl) ?_
            refine lv_iconst (v := 4) hx hb dL_law_307 (by decide) ?_
            obtain ⟨q48, eq48, h⟩ := bd_h h
            refine l_callV (As := [.int v13, .int 4]) CX hM (kdl (show kd 0 = 6 from rfl) rfl) (ly6 (show kd 0 = 6 from rfl) _) rfl lk_L_20 (c_X6_room l E B (show kd 0 = 6 from rfl) eq48) ⟨rfl, rfl, by decide, by decide⟩ rfl hl.1 rfl (Nat.le_of_ble_eq_true rfl) dL_law_308 (fun H locs hM => ?_)
            refine W.eq (g2 := F0 m 311 ls [.int q48.1]) rfl ?_
            refine lv_iconst (v := 1) hx hb dL_law_311 (by decide) ?_
            refine lv_icmp_ne (tgt := 325) hx hb dL_law_312 (by decide) (fun c49 => ?_) (fun c49 => ?_)
            · replace h := if_h c49 h
              refine lv_iload hx hb dL_law_325 (lv_at hl 7 rfl) ?_
              refine lv_if_eq (tgt := 351) hx hb dL_law_327 (by decide) (fun c50 => ?_) (fun c50 => ?_)
              · replace h := it_h c50 h
                refine lv_aload_n hx hb dL_law_351 rfl (lv_at hl 4 rfl) ?_
                refine lv_iload hx hb dL_law_352 (lv_at hl 8 rfl) ?_
                refine lv_bipush (v := 6) hx hb dL_law_354 (by decide) ?_
                obtain ⟨q51, eq51, h⟩ := bd_h h
                refine l_callV (As := [.int v13, .int 6]) CX hM (kdl (show kd 0 = 6 from rfl) rfl) (ly6 (show kd 0 = 6 from rfl) _) rfl lk_L_20 (c_X6_room l E B (show kd 0 = 6 from rfl) eq51) ⟨rfl, rfl, by decide, by decide⟩ rfl hl.1 rfl (Nat.le_of_ble_eq_true rfl) dL_law_356 (fun H locs hM => ?_)
                refine W.eq (g2 := F0 m 359 ls [.int q51.1]) rfl ?_
                refine lv_bipush (v := 50) hx hb dL_law_359 (by decide) ?_
                refine lv_icmp_lt (tgt := 366) hx hb dL_law_361 (by decide) (fun c52 => ?_) (fun c52 => ?_)
                · replace h := it_h c52 h
                  refine lv_iinc (v := (v13 + 1)) (lv' := [(13, .int (v13 + 1)), (11, .int x11_40), (12, .int x12_36), (10, .int x10_34), (0, .ref b), (1, .ref (B + 0)), (2, .int v2), (3, .int v3), (9, .int v9)]) hx hb dL_law_366 hl (k := 8) rfl rfl (by decide) rfl (fun ls hl => ?_)
                  refine lv_goto (tgt := 190) hx hb dL_law_369 (by decide) ?_
                  exact ih.2 _ _ _ _ _ _ _ _ _ _ _ hM (lv_sub hl [4, 5, 6, 7, 8, 3, 1, 2, 0] rfl) h
                · replace h := if_h c52 h
                  refine lv_iconst (v := 0) hx hb dL_law_364 (by decide) ?_
                  obtain rfl := Option.some.inj h
                  exact absurd (show (0 : Int32) = 1 from hq) (by decide)
              · replace h := if_h c50 h
                refine lv_aload_n hx hb dL_law_330 rfl (lv_at hl 4 rfl) ?_
                refine lv_iload hx hb dL_law_331 (lv_at hl 8 rfl) ?_
                refine lv_bipush (v := 9) hx hb dL_law_333 (by decide) ?_
                obtain ⟨q53, eq53, h⟩ := bd_h h
                refine l_callV (As := [.int v13, .int 9]) CX hM (kdl (show kd 0 = 6 from rfl) rfl) (ly6 (show kd 0 = 6 from rfl) _) rfl lk_L_20 (c_X6_room l E B (show kd 0 = 6 from rfl) eq53) ⟨rfl, rfl, by decide, by decide⟩ rfl hl.1 rfl (Nat.le_of_ble_eq_true rfl) dL_law_335 (fun H locs hM => ?_)
                refine W.eq (g2 := F0 m 338 ls [.int q53.1]) rfl ?_
                refine lv_if_le (tgt := 351) hx hb dL_law_338 (by decide) (fun c54 => ?_) (fun c54 => ?_)
                · replace h := it_h c54 h
                  refine lv_aload_n hx hb dL_law_351 rfl (lv_at hl 4 rfl) ?_
                  refine lv_iload hx hb dL_law_352 (lv_at hl 8 rfl) ?_
                  refine lv_bipush (v := 6) hx hb dL_law_354 (by decide) ?_
                  obtain ⟨q55, eq55, h⟩ := bd_h h
                  refine l_callV (As := [.int v13, .int 6]) CX hM (kdl (show kd 0 = 6 from rfl) rfl) (ly6 (show kd 0 = 6 from rfl) _) rfl lk_L_20 (c_X6_room l E B (show kd 0 = 6 from rfl) eq55) ⟨rfl, rfl, by decide, by decide⟩ rfl hl.1 rfl (Nat.le_of_ble_eq_true rfl) dL_law_356 (fun H locs hM => ?_)
                  refine W.eq (g2 := F0 m 359 ls [.int q55.1]) rfl ?_
                  refine lv_bipush (v := 50) hx hb dL_law_359 (by decide) ?_
                  refine lv_icmp_lt (tgt := 366) hx hb dL_law_361 (by decide) (fun c56 => ?_) (fun c56 => ?_)
                  · replace h := it_h c56 h
                    refine lv_iinc (v := (v13 + 1)) (lv' := [(13, .int (v13 + 1)), (11, .int x11_40), (12, .int x12_36), (10, .int x10_34), (0, .ref b), (1, .ref (B + 0)), (2, .int v2), (3, .int v3), (9, .int v9)]) hx hb dL_law_366 hl (k := 8) rfl rfl (by decide) rfl (fun ls hl => ?_)
                    refine lv_goto (tgt := 190) hx hb dL_law_369 (by decide) ?_
                    exact ih.2 _ _ _ _ _ _ _ _ _ _ _ hM (lv_sub hl [4, 5, 6, 7, 8, 3, 1, 2, 0] rfl) h
                  · replace h := if_h c56 h
                    refine lv_iconst (v := 0) hx hb dL_law_364 (by decide) ?_
                    obtain rfl := Option.some.inj h
                    exact absurd (show (0 : Int32) = 1 from hq) (by decide)
                · replace h := if_h c54 h
                  refine lv_aload_n hx hb dL_law_341 rfl (lv_at hl 4 rfl) ?_
                  refine lv_iload hx hb dL_law_342 (lv_at hl 8 rfl) ?_
                  refine lv_iconst (v := 3) hx hb dL_law_344 (by decide) ?_
                  obtain ⟨q57, eq57, h⟩ := bd_h h
                  refine l_callV (As := [.int v13, .int 3]) CX hM (kdl (show kd 0 = 6 from rfl) rfl) (ly6 (show kd 0 = 6 from rfl) _) rfl lk_L_20 (c_X6_room l E B (show kd 0 = 6 from rfl) eq57) ⟨rfl, rfl, by decide, by decide⟩ rfl hl.1 rfl (Nat.le_of_ble_eq_true rfl) dL_law_345 (fun H locs hM => ?_)
                  refine W.eq (g2 := F0 m 348 ls [.int q57.1]) rfl ?_
                  refine lv_if_eq (tgt := 364) hx hb dL_law_348 (by decide) (fun c58 => ?_) (fun c58 => ?_)
                  · replace h := it_h c58 h
                    refine lv_iconst (v := 0) hx hb dL_law_364 (by decide) ?_
                    obtain rfl := Option.some.inj h
                    exact absurd (show (0 : Int32) = 1 from hq) (by decide)
                  · replace h := if_h c58 h
                    refine lv_aload_n hx hb dL_law_351 rfl (lv_at hl 4 rfl) ?_
                    refine lv_iload hx hb dL_law_352 (lv_at hl 8 rfl) ?_
                    refine lv_bipush (v := 6) hx hb dL_law_354 (by decide) ?_
                    obtain ⟨q59, eq59, h⟩ := bd_h h
                    refine l_callV (As := [.int v13, .int 6]) CX hM (kdl (show kd 0 = 6 from rfl) rfl) (ly6 (show kd 0 = 6 from rfl) _) rfl lk_L_20 (c_X6_room l E B (show kd 0 = 6 from rfl) eq59) ⟨rfl, rfl, by decide, by decide⟩ rfl hl.1 rfl (Nat.le_of_ble_eq_true rfl) dL_law_356 (fun H locs hM => ?_)
                    refine W.eq (g2 := F0 m 359 ls [.int q59.1]) rfl ?_
                    refine lv_bipush (v := 50) hx hb dL_law_359 (by decide) ?_
                    refine lv_icmp_lt (tgt := 366) hx hb dL_law_361 (by decide) (fun c60 => ?_) (fun c60 => ?_)
                    · replace h := it_h c60 h
                      refine lv_iinc (v := (v13 + 1)) (lv' := [(13, .int (v13 + 1)), (11, .int x11_40), (12, .int x12_36), (10, .int x10_34), (0, .ref b), (1, .ref (B + 0)), (2, .int v2), (3, .int v3), (9, .int v9)]) hx hb dL_law_366 hl (k := 8) rfl rfl (by decide) rfl (fun ls hl => ?_)
                      refine lv_goto (tgt := 190) hx hb dL_law_369 (by decide) ?_
                      exact ih.2 _ _ _ _ _ _ _ _ _ _ _ hM (lv_sub hl [4, 5, 6, 7, 8, 3, 1, 2, 0] rfl) h
                    · replace h := if_h c60 h
                      refine lv_iconst (v := 0) hx hb dL_law_364 (by decide) ?_
                      obtain rfl := Option.some.inj h
                      exact absurd (show (0 : Int32) = 1 from hq) (by decide)
            · replace h := it_h c49 h
              refine lv_aload_n hx hb dL_law_315 rfl (lv_at hl 4 rfl) ?_
              refine lv_iload hx hb dL_law_316 (lv_at hl 8 rfl) ?_
              refine lv_iconst (v := 3) hx hb dL_law_318 (by decide) ?_
              obtain ⟨q61, eq61, h⟩ := bd_h h
              refine l_callV (As := [.int v13, .int 3]) CX hM (kdl (show kd 0 = 6 from rfl) rfl) (ly6 (show kd 0 = 6 from rfl) _) rfl lk_L_20 (c_X6_room l E B (show kd 0 = 6 from rfl) eq61) ⟨rfl, rfl, by decide, by decide⟩ rfl hl.1 rfl (Nat.le_of_ble_eq_true rfl) dL_law_319 (fun H locs hM => ?_)
              refine W.eq (g2 := F0 m 322 ls [.int q61.1]) rfl ?_
              refine lv_if_eq (tgt := 364) hx hb dL_law_322 (by decide) (fun c62 => ?_) (fun c62 => ?_)
              · replace h := it_h c62 h
                refine lv_iconst (v := 0) hx hb dL_law_364 (by decide) ?_
                obtain rfl := Option.some.inj h
                exact absurd (show (0 : Int32) = 1 from hq) (by decide)
              · replace h := if_h c62 h
                refine lv_iload hx hb dL_law_325 (lv_at hl 7 rfl) ?_
                refine lv_if_eq (tgt := 351) hx hb dL_law_327 (by decide) (fun c63 => ?_) (fun c63 => ?_)
                · replace h := it_h c63 h
                  refine lv_aload_n hx hb dL_law_351 rfl (lv_at hl 4 rfl) ?_
                  refine lv_iload hx hb dL_law_352 (lv_at hl 8 rfl) ?_
                  refine lv_bipush (v := 6) hx hb dL_law_354 (by decide) ?_
                  obtain ⟨q64, eq64, h⟩ := bd_h h
                  refine l_callV (As := [.int v13, .int 6]) CX hM (kdl (show kd 0 = 6 from rfl) rfl) (ly6 (show kd 0 = 6 from rfl) _) rfl lk_L_20 (c_X6_room l E B (show kd 0 = 6 from rfl) eq64) ⟨rfl, rfl, by decide, by decide⟩ rfl hl.1 rfl (Nat.le_of_ble_eq_true rfl) dL_law_356 (fun H locs hM => ?_)
                  refine W.eq (g2 := F0 m 359 ls [.int q64.1]) rfl ?_
                  refine lv_bipush (v := 50) hx hb dL_law_359 (by decide) ?_
                  refine lv_icmp_lt (tgt := 366) hx hb dL_law_361 (by decide) (fun c65 => ?_) (fun c65 => ?_)
                  · replace h := it_h c65 h
                    refine lv_iinc (v := (v13 + 1)) (lv' := [(13, .int (v13 + 1)), (11, .int x11_40), (12, .int x12_36), (10, .int x10_34), (0, .ref b), (1, .ref (B + 0)), (2, .int v2), (3, .int v3), (9, .int v9)]) hx hb dL_law_366 hl (k := 8) rfl rfl (by decide) rfl (fun ls hl => ?_)
                    refine lv_goto (tgt := 190) hx hb dL_law_369 (by decide) ?_
                    exact ih.2 _ _ _ _ _ _ _ _ _ _ _ hM (lv_sub hl [4, 5, 6, 7, 8, 3, 1, 2, 0] rfl) h
                  · replace h := if_h c65 h
                    refine lv_iconst (v := 0) hx hb dL_law_364 (by decide) ?_
                    obtain rfl := Option.some.inj h
                    exact absurd (show (0 : Int32) = 1 from hq) (by decide)
                · replace h := if_h c63 h
                  refine lv_aload_n hx hb dL_law_330 rfl (lv_at hl 4 rfl) ?_
                  refine lv_iload hx hb dL_law_331 (lv_at hl 8 rfl) ?_
                  refine lv_bipush (v := 9) hx hb dL_law_333 (by decide) ?_
                  obtain ⟨q66, eq66, h⟩ := bd_h h
                  refine l_callV (As := [.int v13, .int 9]) CX hM (kdl (show kd 0 = 6 from rfl) rfl) (ly6 (show kd 0 = 6 from rfl) _) rfl lk_L_20 (c_X6_room l E B (show kd 0 = 6 from rfl) eq66) ⟨rfl, rfl, by decide, by decide⟩ rfl hl.1 rfl (Nat.le_of_ble_eq_true rfl) dL_law_335 (fun H locs hM => ?_)
                  refine W.eq (g2 := F0 m 338 ls [.int q66.1]) rfl ?_
                  refine lv_if_le (tgt := 351) hx hb dL_law_338 (by decide) (fun c67 => ?_) (fun c67 => ?_)
                  · replace h := it_h c67 h
                    refine lv_aload_n hx hb dL_law_351 rfl (lv_at hl 4 rfl) ?_
                    refine lv_iload hx hb dL_law_352 (lv_at hl 8 rfl) ?_
                    refine lv_bipush (v := 6) hx hb dL_law_354 (by decide) ?_
                    obtain ⟨q68, eq68, h⟩ := bd_h h
                    refine l_callV (As := [.int v13, .int 6]) CX hM (kdl (show kd 0 = 6 from rfl) rfl) (ly6 (show kd 0 = 6 from rfl) _) rfl lk_L_20 (c_X6_room l E B (show kd 0 = 6 from rfl) eq68) ⟨rfl, rfl, by decide, by decide⟩ rfl hl.1 rfl (Nat.le_of_ble_eq_true rfl) dL_law_356 (fun H locs hM => ?_)
                    refine W.eq (g2 := F0 m 359 ls [.int q68.1]) rfl ?_
                    refine lv_bipush (v := 50) hx hb dL_law_359 (by decide) ?_
                    refine lv_icmp_lt (tgt := 366) hx hb dL_law_361 (by decide) (fun c69 => ?_) (fun c69 => ?_)
                    · replace h := it_h c69 h
                      refine lv_iinc (v := (v13 + 1)) (lv' := [(13, .int (v13 + 1)), (11, .int x11_40), (12, .int x12_36), (10, .int x10_34), (0, .ref b), (1, .ref (B + 0)), (2, .int v2), (3, .int v3), (9, .int v9)]) hx hb dL_law_366 hl (k := 8) rfl rfl (by decide) rfl (fun ls hl => ?_)
                      refine lv_goto (tgt := 190) hx hb dL_law_369 (by decide) ?_
                      exact ih.2 _ _ _ _ _ _ _ _ _ _ _ hM (lv_sub hl [4, 5, 6, 7, 8, 3, 1, 2, 0] rfl) h
                    · replace h := if_h c69 h
                      refine lv_iconst (v := 0) hx hb dL_law_364 (by decide) ?_
                      obtain rfl := Option.some.inj h
                      exact absurd (show (0 : Int32) = 1 from hq) (by decide)
                  · replace h := if_h c67 h
                    refine lv_aload_n hx hb dL_law_341 rfl (lv_at hl 4 rfl) ?_
                    refine lv_iload hx hb dL_law_342 (lv_at hl 8 rfl) ?_
                    refine lv_iconst (v := 3) hx hb dL_law_344 (by decide) ?_
                    obtain ⟨q70, eq70, h⟩ := bd_h h
                    refine l_callV (As := [.int v13, .int 3]) CX hM (kdl (show kd 0 = 6 from rfl) rfl) (ly6 (show kd 0 = 6 from rfl) _) rfl lk_L_20 (c_X6_room l E B (show kd 0 = 6 from rfl) eq70) ⟨rfl, rfl, by decide, by decide⟩ rfl hl.1 rfl (Nat.le_of_ble_eq_true rfl) dL_law_345 (fun H locs hM => ?_)
                    refine W.eq (g2 := F0 m 348 ls [.int q70.1]) rfl ?_
                    refine lv_if_eq (tgt := 364) hx hb dL_law_348 (by decide) (fun c71 => ?_) (fun c71 => ?_)
                    · replace h := it_h c71 h
                      refine lv_iconst (v := 0) hx hb dL_law_364 (by decide) ?_
                      obtain rfl := Option.some.inj h
                      exact absurd (show (0 : Int32) = 1 from hq) (by decide)
                    · replace h := if_h c71 h
                      refine lv_aload_n hx hb dL_law_351 rfl (lv_at hl 4 rfl) ?_
                      refine lv_iload hx hb dL_law_352 (lv_at hl 8 rfl) ?_
                      refine lv_bipush (v := 6) hx hb dL_law_354 (by decide) ?_
                      obtain ⟨q72, eq72, h⟩ := bd_h h
                      refine l_callV (As := [.int v13, .int 6]) CX hM (kdl (show kd 0 = 6 from rfl) rfl) (ly6 (show kd 0 = 6 from rfl) _) rfl lk_L_20 (c_X6_room l E B (show kd 0 = 6 from rfl) eq72) ⟨rfl, rfl, by decide, by decide⟩ rfl hl.1 rfl (Nat.le_of_ble_eq_true rfl) dL_law_356 (fun H locs hM => ?_)
                      refine W.eq (g2 := F0 m 359 ls [.int q72.1]) rfl ?_
                      refine lv_bipush (v := 50) hx hb dL_law_359 (by decide) ?_
                      refine lv_icmp_lt (tgt := 366) hx hb dL_law_361 (by decide) (fun c73 => ?_) (fun c73 => ?_)
                      · replace h := it_h c73 h
                        refine lv_iinc (v := (v13 + 1)) (lv' := [(13, .int (v13 + 1)), (11, .int x11_40), (12, .int x12_36), (10, .int x10_34), (0, .ref b), (1, .ref (B + 0)), (2, .int v2), (3, .int v3), (9, .int v9)]) hx hb dL_law_366 hl (k := 8) rfl rfl (by decide) rfl (fun ls hl => ?_)
                        refine lv_goto (tgt := 190) hx hb dL_law_369 (by decide) ?_
                        exact ih.2 _ _ _ _ _ _ _ _ _ _ _ hM (lv_sub hl [4, 5, 6, 7, 8, 3, 1, 2, 0] rfl) h
                      · replace h := if_h c73 h
                        refine lv_iconst (v := 0) hx hb dL_law_364 (by decide) ?_
                        obtain rfl := Option.some.inj h
                        exact absurd (show (0 : Int32) = 1 from hq) (by decide)
          · replace h := if_h c47 h
            refine lv_iconst (v := 0) hx hb dL_law_302 (by decide) ?_
            obtain rfl := Option.some.inj h
            exact absurd (show (0 : Int32) = 1 from hq) (by decide)
        · replace h := if_h c39 h
          refine lv_iconst (v := 1) hx hb dL_law_245 (by decide) ?_
          refine lv_goto (tgt := 250) hx hb dL_law_246 (by decide) ?_
          refine lv_iadd hx hb dL_law_250 ?_
          refine lv_topi (fun x11_74 ex11_74 => ?_)
          replace h := nm_h ex11_74 h
          refine lv_istore (lv' := [(11, .int x11_74), (12, .int x12_36), (10, .int x10_34), (0, .ref b), (1, .ref (B + 0)), (2, .int v2), (3, .int v3), (9, .int v9), (13, .int v13)]) hx hb dL_law_251 hl (by decide) rfl (fun ls hl => ?_)
          refine lv_aload_n hx hb dL_law_253 rfl (lv_at hl 4 rfl) ?_
          refine lv_iload hx hb dL_law_254 (lv_at hl 8 rfl) ?_
          refine lv_iconst (v := 1) hx hb dL_law_256 (by decide) ?_
          obtain ⟨q75, eq75, h⟩ := bd_h h
          refine l_callV (As := [.int v13, .int 1]) CX hM (kdl (show kd 0 = 6 from rfl) rfl) (ly6 (show kd 0 = 6 from rfl) _) rfl lk_L_20 (c_X6_room l E B (show kd 0 = 6 from rfl) eq75) ⟨rfl, rfl, by decide, by decide⟩ rfl hl.1 rfl (Nat.le_of_ble_eq_true rfl) dL_law_257 (fun H locs hM => ?_)
          refine W.eq (g2 := F0 m 260 ls [.int q75.1]) rfl ?_
          refine lv_aload_n hx hb dL_law_260 rfl (lv_at hl 4 rfl) ?_
          refine lv_iload hx hb dL_law_261 (lv_at hl 8 rfl) ?_
          refine lv_iconst (v := 0) hx hb dL_law_263 (by decide) ?_
          obtain ⟨q76, eq76, h⟩ := bd_h h
          refine l_callV (As := [.int v13, .int 0]) CX hM (kdl (show kd 0 = 6 from rfl) rfl) (ly6 (show kd 0 = 6 from rfl) _) rfl lk_L_26 (c_X6_book l E B (show kd 0 = 6 from rfl) eq76) ⟨rfl, rfl, by decide, by decide⟩ rfl hl.1 rfl (Nat.le_of_ble_eq_true rfl) dL_law_264 (fun H locs hM => ?_)
          refine W.eq (g2 := F0 m 267 ls [.int q76.1, .int q75.1]) rfl ?_
          refine lv_aload_n hx hb dL_law_267 rfl (lv_at hl 4 rfl) ?_
          refine lv_iload hx hb dL_law_268 (lv_at hl 8 rfl) ?_
          refine lv_iconst (v := 1) hx hb dL_law_270 (by decide) ?_
          obtain ⟨q77, eq77, h⟩ := bd_h h
          refine l_callV (As := [.int v13, .int 1]) CX hM (kdl (show kd 0 = 6 from rfl) rfl) (ly6 (show kd 0 = 6 from rfl) _) rfl lk_L_26 (c_X6_book l E B (show kd 0 = 6 from rfl) eq77) ⟨rfl, rfl, by decide, by decide⟩ rfl hl.1 rfl (Nat.le_of_ble_eq_true rfl) dL_law_271 (fun H locs hM => ?_)
          refine W.eq (g2 := F0 m 274 ls [.int q77.1, .int q76.1, .int q75.1]) rfl ?_
          refine lv_iadd hx hb dL_law_274 ?_
          refine lv_aload_n hx hb dL_law_275 rfl (lv_at hl 4 rfl) ?_
          refine lv_iload hx hb dL_law_276 (lv_at hl 8 rfl) ?_
          refine lv_iconst (v := 2) hx hb dL_law_278 (by decide) ?_
          obtain ⟨q78, eq78, h⟩ := bd_h h
          refine l_callV (As := [.int v13, .int 2]) CX hM (kdl (show kd 0 = 6 from rfl) rfl) (ly6 (show kd 0 = 6 from rfl) _) rfl lk_L_26 (c_X6_book l E B (show kd 0 = 6 from rfl) eq78) ⟨rfl, rfl, by decide, by decide⟩ rfl hl.1 rfl (Nat.le_of_ble_eq_true rfl) dL_law_279 (fun H locs hM => ?_)
          refine W.eq (g2 := F0 m 282 ls [.int q78.1, .int (q76.1 + q77.1), .int q75.1]) rfl ?_
          refine lv_isub hx hb dL_law_282 ?_
          refine lv_aload_n hx hb dL_law_283 rfl (lv_at hl 4 rfl) ?_
          refine lv_iload hx hb dL_law_284 (lv_at hl 8 rfl) ?_
          refine lv_iconst (v := 3) hx hb dL_law_286 (by decide) ?_
          obtain ⟨q79, eq79, h⟩ := bd_h h
          refine l_callV (As := [.int v13, .int 3]) CX hM (kdl (show kd 0 = 6 from rfl) rfl) (ly6 (show kd 0 = 6 from rfl) _) rfl lk_L_26 (c_X6_book l E B (show kd 0 = 6 from rfl) eq79) ⟨rfl, rfl, by decide, by decide⟩ rfl hl.1 rfl (Nat.le_of_ble_eq_true rfl) dL_law_287 (fun H locs hM => ?_)
          refine W.eq (g2 := F0 m 290 ls [.int q79.1, .int ((q76.1 + q77.1) - q78.1), .int q75.1]) rfl ?_
          refine lv_isub hx hb dL_law_290 ?_
          refine lv_aload_n hx hb dL_law_291 rfl (lv_at hl 4 rfl) ?_
          refine lv_iload hx hb dL_law_292 (lv_at hl 8 rfl) ?_
          refine lv_iconst (v := 4) hx hb dL_law_294 (by decide) ?_
          obtain ⟨q80, eq80, h⟩ := bd_h h
          refine l_callV (As := [.int v13, .int 4]) CX hM (kdl (show kd 0 = 6 from rfl) rfl) (ly6 (show kd 0 = 6 from rfl) _) rfl lk_L_26 (c_X6_book l E B (show kd 0 = 6 from rfl) eq80) ⟨rfl, rfl, by decide, by decide⟩ rfl hl.1 rfl (Nat.le_of_ble_eq_true rfl) dL_law_295 (fun H locs hM => ?_)
          refine W.eq (g2 := F0 m 298 ls [.int q80.1, .int (((q76.1 + q77.1) - q78.1) - q79.1), .int q75.1]) rfl ?_
          refine lv_iadd hx hb dL_law_298 ?_
          refine lv_icmp_eq (tgt := 304) hx hb dL_law_299 (by decide) (fun c81 => ?_) (fun c81 => ?_)
          · replace h := it_h c81 h
            refine lv_aload_n hx hb dL_law_304 rfl (lv_at hl 4 rfl) ?_
            refine lv_iload hx hb dL_law_305 (lv_at hl 8 rfl) ?_
            refine lv_iconst (v := 4) hx hb dL_law_307 (by decide) ?_
            obtain ⟨q82, eq82, h⟩ := bd_h h
            refine l_callV (As := [.int v13, .int 4]) CX hM (kdl (show kd 0 = 6 from rfl) rfl) (ly6 (show kd 0 = 6 from rfl) _) rfl lk_L_20 (c_X6_room l E B (show kd 0 = 6 from rfl) eq82) ⟨rfl, rfl, by decide, by decide⟩ rfl hl.1 rfl (Nat.le_of_ble_eq_true rfl) dL_law_308 (fun H locs hM => ?_)
            refine W.eq (g2 := F0 m 311 ls [.int q82.1]) rfl ?_
            refine lv_iconst (v := 1) hx hb dL_law_311 (by decide) ?_
            refine lv_icmp_ne (tgt := 325) hx hb dL_law_312 (by decide) (fun c83 => ?_) (fun c83 => ?_)
            · replace h := if_h c83 h
              refine lv_iload hx hb dL_law_325 (lv_at hl 7 rfl) ?_
              refine lv_if_eq (tgt := 351) hx hb dL_law_327 (by decide) (fun c84 => ?_) (fun c84 => ?_)
              · replace h := it_h c84 h
                refine lv_aload_n hx hb dL_law_351 rfl (lv_at hl 4 rfl) ?_
                refine lv_iload hx hb dL_law_352 (lv_at hl 8 rfl) ?_
                refine lv_bipush (v := 6) hx hb dL_law_354 (by decide) ?_
                obtain ⟨q85, eq85, h⟩ := bd_h h
                refine l_callV (As := [.int v13, .int 6]) CX hM (kdl (show kd 0 = 6 from rfl) rfl) (ly6 (show kd 0 = 6 from rfl) _) rfl lk_L_20 (c_X6_room l E B (show kd 0 = 6 from rfl) eq85) ⟨rfl, rfl, by decide, by decide⟩ rfl hl.1 rfl (Nat.le_of_ble_eq_true rfl) dL_law_356 (fun H locs hM => ?_)
                refine W.eq (g2 := F0 m 359 ls [.int q85.1]) rfl ?_
                refine lv_bipush (v := 50) hx hb dL_law_359 (by decide) ?_
                refine lv_icmp_lt (tgt := 366) hx hb dL_law_361 (by decide) (fun c86 => ?_) (fun c86 => ?_)
                · replace h := it_h c86 h
                  refine lv_iinc (v := (v13 + 1)) (lv' := [(13, .int (v13 + 1)), (11, .int x11_74), (12, .int x12_36), (10, .int x10_34), (0, .ref b), (1, .ref (B + 0)), (2, .int v2), (3, .int v3), (9, .int v9)]) hx hb dL_law_366 hl (k := 8) rfl rfl (by decide) rfl (fun ls hl => ?_)
                  refine lv_goto (tgt := 190) hx hb dL_law_369 (by decide) ?_
                  exact ih.2 _ _ _ _ _ _ _ _ _ _ _ hM (lv_sub hl [4, 5, 6, 7, 8, 3, 1, 2, 0] rfl) h
                · replace h := if_h c86 h
                  refine lv_iconst (v := 0) hx hb dL_law_364 (by decide) ?_
                  obtain rfl := Option.some.inj h
                  exact absurd (show (0 : Int32) = 1 from hq) (by decide)
              · replace h := if_h c84 h
                refine lv_aload_n hx hb dL_law_330 rfl (lv_at hl 4 rfl) ?_
                refine lv_iload hx hb dL_law_331 (lv_at hl 8 rfl) ?_
                refine lv_bipush (v := 9) hx hb dL_law_333 (by decide) ?_
                obtain ⟨q87, eq87, h⟩ := bd_h h
                refine l_callV (As := [.int v13, .int 9]) CX hM (kdl (show kd 0 = 6 from rfl) rfl) (ly6 (show kd 0 = 6 from rfl) _) rfl lk_L_20 (c_X6_room l E B (show kd 0 = 6 from rfl) eq87) ⟨rfl, rfl, by decide, by decide⟩ rfl hl.1 rfl (Nat.le_of_ble_eq_true rfl) dL_law_335 (fun H locs hM => ?_)
                refine W.eq (g2 := F0 m 338 ls [.int q87.1]) rfl ?_
                refine lv_if_le (tgt := 351) hx hb dL_law_338 (by decide) (fun c88 => ?_) (fun c88 => ?_)
                · replace h := it_h c88 h
                  refine lv_aload_n hx hb dL_law_351 rfl (lv_at hl 4 rfl) ?_
                  refine lv_iload hx hb dL_law_352 (lv_at hl 8 rfl) ?_
                  refine lv_bipush (v := 6) hx hb dL_law_354 (by decide) ?_
                  obtain ⟨q89, eq89, h⟩ := bd_h h
                  refine l_callV (As := [.int v13, .int 6]) CX hM (kdl (show kd 0 = 6 from rfl) rfl) (ly6 (show kd 0 = 6 from rfl) _) rfl lk_L_20 (c_X6_room l E B (show kd 0 = 6 from rfl) eq89) ⟨rfl, rfl, by decide, by decide⟩ rfl hl.1 rfl (Nat.le_of_ble_eq_true rfl) dL_law_356 (fun H locs hM => ?_)
                  refine W.eq (g2 := F0 m 359 ls [.int q89.1]) rfl ?_
                  refine lv_bipush (v := 50) hx hb dL_law_359 (by decide) ?_
                  refine lv_icmp_lt (tgt := 366) hx hb dL_law_361 (by decide) (fun c90 => ?_) (fun c90 => ?_)
                  · replace h := it_h c90 h
                    refine lv_iinc (v := (v13 + 1)) (lv' := [(13, .int (v13 + 1)), (11, .int x11_74), (12, .int x12_36), (10, .int x10_34), (0, .ref b), (1, .ref (B + 0)), (2, .int v2), (3, .int v3), (9, .int v9)]) hx hb dL_law_366 hl (k := 8) rfl rfl (by decide) rfl (fun ls hl => ?_)
                    refine lv_goto (tgt := 190) hx hb dL_law_369 (by decide) ?_
                    exact ih.2 _ _ _ _ _ _ _ _ _ _ _ hM (lv_sub hl [4, 5, 6, 7, 8, 3, 1, 2, 0] rfl) h
                  · replace h := if_h c90 h
                    refine lv_iconst (v := 0) hx hb dL_law_364 (by decide) ?_
                    obtain rfl := Option.some.inj h
                    exact absurd (show (0 : Int32) = 1 from hq) (by decide)
                · replace h := if_h c88 h
                  refine lv_aload_n hx hb dL_law_341 rfl (lv_at hl 4 rfl) ?_
                  refine lv_iload hx hb dL_law_342 (lv_at hl 8 rfl) ?_
                  refine lv_iconst (v := 3) hx hb dL_law_344 (by decide) ?_
                  obtain ⟨q91, eq91, h⟩ := bd_h h
                  refine l_callV (As := [.int v13, .int 3]) CX hM (kdl (show kd 0 = 6 from rfl) rfl) (ly6 (show kd 0 = 6 from rfl) _) rfl lk_L_20 (c_X6_room l E B (show kd 0 = 6 from rfl) eq91) ⟨rfl, rfl, by decide, by decide⟩ rfl hl.1 rfl (Nat.le_of_ble_eq_true rfl) dL_law_345 (fun H locs hM => ?_)
                  refine W.eq (g2 := F0 m 348 ls [.int q91.1]) rfl ?_
                  refine lv_if_eq (tgt := 364) hx hb dL_law_348 (by decide) (fun c92 => ?_) (fun c92 => ?_)
                  · replace h := it_h c92 h
                    refine lv_iconst (v := 0) hx hb dL_law_364 (by decide) ?_
                    obtain rfl := Option.some.inj h
                    exact absurd (show (0 : Int32) = 1 from hq) (by decide)
                  · replace h := if_h c92 h
                    refine lv_aload_n hx hb dL_law_351 rfl (lv_at hl 4 rfl) ?_
                    refine lv_iload hx hb dL_law_352 (lv_at hl 8 rfl) ?_
                    refine lv_bipush (v := 6) hx hb dL_law_354 (by decide) ?_
                    obtain ⟨q93, eq93, h⟩ := bd_h h
                    refine l_callV (As := [.int v13, .int 6]) CX hM (kdl (show kd 0 = 6 from rfl) rfl) (ly6 (show kd 0 = 6 from rfl) _) rfl lk_L_20 (c_X6_room l E B (show kd 0 = 6 from rfl) eq93) ⟨rfl, rfl, by decide, by decide⟩ rfl hl.1 rfl (Nat.le_of_ble_eq_true rfl) dL_law_356 (fun H locs hM => ?_)
                    refine W.eq (g2 := F0 m 359 ls [.int q93.1]) rfl ?_
                    refine lv_bipush (v := 50) hx hb dL_law_359 (by decide) ?_
                    refine lv_icmp_lt (tgt := 366) hx hb dL_law_361 (by decide) (fun c94 => ?_) (fun c94 => ?_)
                    · replace h := it_h c94 h
                      refine lv_iinc (v := (v13 + 1)) (lv' := [(13, .int (v13 + 1)), (11, .int x11_74), (12, .int x12_36), (10, .int x10_34), (0, .ref b), (1, .ref (B + 0)), (2, .int v2), (3, .int v3), (9, .int v9)]) hx hb dL_law_366 hl (k := 8) rfl rfl (by decide) rfl (fun ls hl => ?_)
                      refine lv_goto (tgt := 190) hx hb dL_law_369 (by decide) ?_
                      exact ih.2 _ _ _ _ _ _ _ _ _ _ _ hM (lv_sub hl [4, 5, 6, 7, 8, 3, 1, 2, 0] rfl) h
                    · replace h := if_h c94 h
                      refine lv_iconst (v := 0) hx hb dL_law_364 (by decide) ?_
                      obtain rfl := Option.some.inj h
                      exact absurd (show (0 : Int32) = 1 from hq) (by decide)
            · replace h := it_h c83 h
              refine lv_aload_n hx hb dL_law_315 rfl (lv_at hl 4 rfl) ?_
              refine lv_iload hx hb dL_law_316 (lv_at hl 8 rfl) ?_
              refine lv_iconst (v := 3) hx hb dL_law_318 (by decide) ?_
              obtain ⟨q95, eq95, h⟩ := bd_h h
              refine l_callV (As := [.int v13, .int 3]) CX hM (kdl (show kd 0 = 6 from rfl) rfl) (ly6 (show kd 0 = 6 from rfl) _) rfl lk_L_20 (c_X6_room l E B (show kd 0 = 6 from rfl) eq95) ⟨rfl, rfl, by decide, by decide⟩ rfl hl.1 rfl (Nat.le_of_ble_eq_true rfl) dL_law_319 (fun H locs hM => ?_)
              refine W.eq (g2 := F0 m 322 ls [.int q95.1]) rfl ?_
              refine lv_if_eq (tgt := 364) hx hb dL_law_322 (by decide) (fun c96 => ?_) (fun c96 => ?_)
              · replace h := it_h c96 h
                refine lv_iconst (v := 0) hx hb dL_law_364 (by decide) ?_
                obtain rfl := Option.some.inj h
                exact absurd (show (0 : Int32) = 1 from hq) (by decide)
              · replace h := if_h c96 h
                refine lv_iload hx hb dL_law_325 (lv_at hl 7 rfl) ?_
                refine lv_if_eq (tgt := 351) hx hb dL_law_327 (by decide) (fun c97 => ?_) (fun c97 => ?_)
                · replace h := it_h c97 h
                  refine lv_aload_n hx hb dL_law_351 rfl (lv_at hl 4 rfl) ?_
                  refine lv_iload hx hb dL_law_352 (lv_at hl 8 rfl) ?_
                  refine lv_bipush (v := 6) hx hb dL_law_354 (by decide) ?_
                  obtain ⟨q98, eq98, h⟩ := bd_h h
                  refine l_callV (As := [.int v13, .int 6]) CX hM (kdl (show kd 0 = 6 from rfl) rfl) (ly6 (show kd 0 = 6 from rfl) _) rfl lk_L_20 (c_X6_room l E B (show kd 0 = 6 from rfl) eq98) ⟨rfl, rfl, by decide, by decide⟩ rfl hl.1 rfl (Nat.le_of_ble_eq_true rfl) dL_law_356 (fun H locs hM => ?_)
                  refine W.eq (g2 := F0 m 359 ls [.int q98.1]) rfl ?_
                  refine lv_bipush (v := 50) hx hb dL_law_359 (by decide) ?_
                  refine lv_icmp_lt (tgt := 366) hx hb dL_law_361 (by decide) (fun c99 => ?_) (fun c99 => ?_)
                  · replace h := it_h c99 h
                    refine lv_iinc (v := (v13 + 1)) (lv' := [(13, .int (v13 + 1)), (11, .int x11_74), (12, .int x12_36), (10, .int x10_34), (0, .ref b), (1, .ref (B + 0)), (2, .int v2), (3, .int v3), (9, .int v9)]) hx hb dL_law_366 hl (k := 8) rfl rfl (by decide) rfl (fun ls hl => ?_)
                    refine lv_goto (tgt := 190) hx hb dL_law_369 (by decide) ?_
                    exact ih.2 _ _ _ _ _ _ _ _ _ _ _ hM (lv_sub hl [4, 5, 6, 7, 8, 3, 1, 2, 0] rfl) h
                  · replace h := if_h c99 h
                    refine lv_iconst (v := 0) hx hb dL_law_364 (by decide) ?_
                    obtain rfl := Option.some.inj h
                    exact absurd (show (0 : Int32) = 1 from hq) (by decide)
                · replace h := if_h c97 h
                  refine lv_aload_n hx hb dL_law_330 rfl (lv_at hl 4 rfl) ?_
                  refine lv_iload hx hb dL_law_331 (lv_at hl 8 rfl) ?_
                  refine lv_bipush (v := 9) hx hb dL_law_333 (by decide) ?_
                  obtain ⟨q100, eq100, h⟩ := bd_h h
                  refine l_callV (As := [.int v13, .int 9]) CX hM (kdl (show kd 0 = 6 from rfl) rfl) (ly6 (show kd 0 = 6 from rfl) _) rfl lk_L_20 (c_X6_room l E B (show kd 0 = 6 from rfl) eq100) ⟨rfl, rfl, by decide, by decide⟩ rfl hl.1 rfl (Nat.le_of_ble_eq_true rfl) dL_law_335 (fun H locs hM => ?_)
                  refine W.eq (g2 := F0 m 338 ls [.int q100.1]) rfl ?_
                  refine lv_if_le (tgt := 351) hx hb dL_law_338 (by decide) (fun c101 => ?_) (fun c101 => ?_)
                  · replace h := it_h c101 h
                    refine lv_aload_n hx hb dL_law_351 rfl (lv_at hl 4 rfl) ?_
                    refine lv_iload hx hb dL_law_352 (lv_at hl 8 rfl) ?_
                    refine lv_bipush (v := 6) hx hb dL_law_354 (by decide) ?_
                    obtain ⟨q102, eq102, h⟩ := bd_h h
                    refine l_callV (As := [.int v13, .int 6]) CX hM (kdl (show kd 0 = 6 from rfl) rfl) (ly6 (show kd 0 = 6 from rfl) _) rfl lk_L_20 (c_X6_room l E B (show kd 0 = 6 from rfl) eq102) ⟨rfl, rfl, by decide, by decide⟩ rfl hl.1 rfl (Nat.le_of_ble_eq_true rfl) dL_law_356 (fun H locs hM => ?_)
                    refine W.eq (g2 := F0 m 359 ls [.int q102.1]) rfl ?_
                    refine lv_bipush (v := 50) hx hb dL_law_359 (by decide) ?_
                    refine lv_icmp_lt (tgt := 366) hx hb dL_law_361 (by decide) (fun c103 => ?_) (fun c103 => ?_)
                    · replace h := it_h c103 h
                      refine lv_iinc (v := (v13 + 1)) (lv' := [(13, .int (v13 + 1)), (11, .int x11_74), (12, .int x12_36), (10, .int x10_34), (0, .ref b), (1, .ref (B + 0)), (2, .int v2), (3, .int v3), (9, .int v9)]) hx hb dL_law_366 hl (k := 8) rfl rfl (by decide) rfl (fun ls hl => ?_)
                      refine lv_goto (tgt := 190) hx hb dL_law_369 (by decide) ?_
                      exact ih.2 _ _ _ _ _ _ _ _ _ _ _ hM (lv_sub hl [4, 5, 6, 7, 8, 3, 1, 2, 0] rfl) h
                    · replace h := if_h c103 h
                      refine lv_iconst (v := 0) hx hb dL_law_364 (by decide) ?_
                      obtain rfl := Option.some.inj h
                      exact absurd (show (0 : Int32) = 1 from hq) (by decide)
                  · replace h := if_h c101 h
                    refine lv_aload_n hx hb dL_law_341 rfl (lv_at hl 4 rfl) ?_
                    refine lv_iload hx hb dL_law_342 (lv_at hl 8 rfl) ?_
                    refine lv_iconst (v := 3) hx hb dL_law_344 (by decide) ?_
                    obtain ⟨q104, eq104, h⟩ := bd_h h
                    refine l_callV (As := [.int v13, .int 3]) CX hM (kdl (show kd 0 = 6 from rfl) rfl) (ly6 (show kd 0 = 6 from rfl) _) rfl lk_L_20 (c_X6_room l E B (show kd 0 = 6 from rfl) eq104) ⟨rfl, rfl, by decide, by decide⟩ rfl hl.1 rfl (Nat.le_of_ble_eq_true rfl) dL_law_345 (fun H locs hM => ?_)
                    refine W.eq (g2 := F0 m 348 ls [.int q104.1]) rfl ?_
                    refine lv_if_eq (tgt := 364) hx hb dL_law_348 (by decide) (fun c105 => ?_) (fun c105 => ?_)
                    · replace h := it_h c105 h
                      refine lv_iconst (v := 0) hx hb dL_law_364 (by decide) ?_
                      obtain rfl := Option.some.inj h
                      exact absurd (show (0 : Int32) = 1 from hq) (by decide)
                    · replace h := if_h c105 h
                      refine lv_aload_n hx hb dL_law_351 rfl (lv_at hl 4 rfl) ?_
                      refine lv_iload hx hb dL_law_352 (lv_at hl 8 rfl) ?_
                      refine lv_bipush (v := 6) hx hb dL_law_354 (by decide) ?_
                      obtain ⟨q106, eq106, h⟩ := bd_h h
                      refine l_callV (As := [.int v13, .int 6]) CX hM (kdl (show kd 0 = 6 from rfl) rfl) (ly6 (show kd 0 = 6 from rfl) _) rfl lk_L_20 (c_X6_room l E B (show kd 0 = 6 from rfl) eq106) ⟨rfl, rfl, by decide, by decide⟩ rfl hl.1 rfl (Nat.le_of_ble_eq_true rfl) dL_law_356 (fun H locs hM => ?_)
                      refine W.eq (g2 := F0 m 359 ls [.int q106.1]) rfl ?_
                      refine lv_bipush (v := 50) hx hb dL_law_359 (by decide) ?_
                      refine lv_icmp_lt (tgt := 366) hx hb dL_law_361 (by decide) (fun c107 => ?_) (fun c107 => ?_)
                      · replace h := it_h c107 h
                        refine lv_iinc (v := (v13 + 1)) (lv' := [(13, .int (v13 + 1)), (11, .int x11_74), (12, .int x12_36), (10, .int x10_34), (0, .ref b), (1, .ref (B + 0)), (2, .int v2), (3, .int v3), (9, .int v9)]) hx hb dL_law_366 hl (k := 8) rfl rfl (by decide) rfl (fun ls hl => ?_)
                        refine lv_goto (tgt := 190) hx hb dL_law_369 (by decide) ?_
                        exact ih.2 _ _ _ _ _ _ _ _ _ _ _ hM (lv_sub hl [4, 5, 6, 7, 8, 3, 1, 2, 0] rfl) h
                      · replace h := if_h c107 h
                        refine lv_iconst (v := 0) hx hb dL_law_364 (by decide) ?_
                        obtain rfl := Option.some.inj h
                        exact absurd (show (0 : Int32) = 1 from hq) (by decide)
          · replace h := if_h c81 h
            refine lv_iconst (v := 0) hx hb dL_law_302 (by decide) ?_
            obtain rfl := Option.some.inj h
            exact absurd (show (0 : Int32) = 1 from hq) (by decide)
set_option maxHeartbeats 4000000 in
set_option maxRecDepth 100000 in
theorem law_body (l : Launch) {p : Program} {e : Env} {s : State} {m : MethodId} {below : List Frame} {meth : Method} {c : Code} {E : xE} {B b : Nat} {LX : Nat × (Nat → Int32)} (CX : lCX p m c s E B b LX) (hr : meth.sig.returnType = ret) (hlk : meth.locks = false) (hL : LX.1 ≤ 260) {q : Int32 × xM} (hq : q.1 = 1) {σ : xM} {H : Heap} {locs : List Loc} {ls : Array Slot} (hM : lX E B s σ H locs) (hl : lv_has ls 17 [(1, .ref (B + 0)), (0, .ref b)]) (h : F_L_law LX σ = some q) : W p l e room_1 s m #[.ref b] below meth c H locs 160 1904 (lw_Z below #[Value.ref b] s) (F0 m 8 ls []) := by
  have hx := CX.1.1.1
  have hb := CX.1.1.2.1
  have LL := law_LL l (below := below) CX hr hlk hL hq (e := e) (meth := meth)
  unfold F_L_law at h
  refine lv_iconst (v := 0) hx hb dL_law_8 (by decide) ?_
  refine lv_istore_n (lv' := [(2, .int 0), (1, .ref (B + 0)), (0, .ref b)]) hx hb dL_law_9 rfl hl (by decide) rfl (fun ls hl => ?_)
  refine lv_iconst (v := 0) hx hb dL_law_10 (by decide) ?_
  refine lv_istore_n (lv' := [(3, .int 0), (2, .int 0), (1, .ref (B + 0)), (0, .ref b)]) hx hb dL_law_11 rfl hl (by decide) rfl (fun ls hl => ?_)
  exact (LL _).1 _ _ _ _ _ _ hM (lv_sub hl [3, 2, 1, 0] rfl) h
