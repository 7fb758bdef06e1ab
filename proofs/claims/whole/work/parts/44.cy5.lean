def rm_X7_readsAll : Jvm.Room := { frames := 2, cells := 0, slots := 0, locals := 51 }
set_option maxHeartbeats 4000000 in
set_option maxRecDepth 100000 in
theorem c_X7_readsAll (l : Launch) (E : xE) (B : Nat) {k : Nat} {σ : xM} {q : Int32 × xM} (hk_k : kdY k = 7) (h : F_X7_readsAll k σ = some q) : Met l yX7_readsAll (Cond.code yX7_readsAll cX7_readsAll 4 (some .boolean) :: AL) rm_X7_readsAll (xP E B 7 (layY E B) [.ref (B + k)] σ) (xQ E B 7 (layY E B) (some (.int (bz q.1))) q.2) 0 0 (wA B 7) := by
  refine x_met (plainFor_of_name (by decide +kernel)) (Nat.le_of_ble_eq_true rfl) rfl ?_
  intro p e s m below meth c ls CX hr hlk hM hl
  have hx := CX.1.1
  have hb := CX.1.2.1
  unfold F_X7_readsAll at h
  have L23 : ∀ (N : Nat) (v1 : Int32) (σ : xM), ∀ (H : Heap) (locs : List Loc) (ls : Array Slot), xS E B 7 (layY E B) s σ H locs → lv_has ls 4 [(0, .ref (B + k)), (1, .int v1)] → F_X7_readsAll_L23 k N v1 σ = some q → W p l e rm_X7_readsAll s m ([.ref (B + k)] : List Value).toArray below meth c H locs 0 0 (MQ below (xQ E B 7 (layY E B) (some (.int (bz q.1))) q.2) ([.ref (B + k)] : List Value).toArray s 0 0 (wA B 7)) (F0 m 23 ls []) := by
    clear hM hl h
    intro N
    induction N with
    | zero =>
      intro v1 σ  H locs ls hM hl h
      cases h
    | succ N ih =>
      intro v1 σ  H locs ls hM hl h
      rw [F_X7_readsAll_L23] at h
      refine lv_iload_n hx hb dX7_readsAll_23 rfl (lv_at hl 1 rfl) ?_
      refine lv_if_eq (tgt := 210) hx hb dX7_readsAll_24 (by decide) (fun c5 => ?_) (fun c5 => ?_)
      · replace h := it_h c5 h
        refine lv_iconst (v := 1) hx hb dX7_readsAll_210 (by decide) ?_
        obtain rfl := Option.some.inj h
        exact x_zret (y := 1) CX hr hlk hM rfl rfl dX7_readsAll_211
      · replace h := if_h c5 h
        refine lv_aload_n hx hb dX7_readsAll_27 rfl (lv_at hl 0 rfl) ?_
        refine g7_7 CX hM hk_k wf_X7_104 dX7_readsAll_28 ?_
        refine lv_if_ne (tgt := 38) hx hb dX7_readsAll_31 (by decide) (fun c6 => ?_) (fun c6 => ?_)
        · replace h := if_h c6 h
          refine lv_aload_n hx hb dX7_readsAll_38 rfl (lv_at hl 0 rfl) ?_
          refine g7_6 CX hM hk_k wf_X7_23 dX7_readsAll_39 ?_
          refine lv_iconst (v := 2) hx hb dX7_readsAll_42 (by decide) ?_
          refine lv_aload_n hx hb dX7_readsAll_43 rfl (lv_at hl 0 rfl) ?_
          refine g7_7 CX hM hk_k wf_X7_104 dX7_readsAll_44 ?_
          refine lv_imul hx hb dX7_readsAll_47 ?_
          refine lv_iconst (v := 2) hx hb dX7_readsAll_48 (by decide) ?_
          refine lv_isub hx hb dX7_readsAll_49 ?_
          obtain ⟨g7, h⟩ := ck_h h
          refine x_iald CX hM (kdYl (kd7_f hk_k).2.2.2.2.1 rfl) (ly24 (kd7_f hk_k).2.2.2.2.1 _) g7 dX7_readsAll_50 ?_
          refine lv_iconst (v := 1) hx hb dX7_readsAll_51 (by decide) ?_
          refine lv_iadd hx hb dX7_readsAll_52 ?_
          refine lv_topi (fun x2_8 ex2_8 => ?_)
          replace h := nm_h ex2_8 h
          refine lv_istore_n (lv' := [(2, .int x2_8), (0, .ref (B + k)), (1, .int v1)]) hx hb dX7_readsAll_53 rfl hl (by decide) rfl (fun ls hl => ?_)
          refine lv_aload_n hx hb dX7_readsAll_54 rfl (lv_at hl 1 rfl) ?_
          refine lv_aload_n hx hb dX7_readsAll_55 rfl (lv_at hl 1 rfl) ?_
          refine g7_7 CX hM hk_k wf_X7_104 dX7_readsAll_56 ?_
          refine lv_bipush (v := 12) hx hb dX7_readsAll_59 (by decide) ?_
          refine lv_icmp_ne (tgt := 69) hx hb dX7_readsAll_61 (by decide) (fun c9 => ?_) (fun c9 => ?_)
          · replace h := if_h c9 h
            refine lv_iload_n hx hb dX7_readsAll_69 rfl (lv_at hl 0 rfl) ?_
            refine lv_sipush (v := 9999) hx hb dX7_readsAll_70 (by decide) ?_
            refine lv_iconst (v := 0) hx hb dX7_readsAll_73 (by decide) ?_
            obtain ⟨q10, eq10, h⟩ := bd_h h
            refine x_callV (As := [.int x2_8, .int 9999, .int 0]) CX hM (kdYl hk_k rfl) (ly7 hk_k _) rfl lk_X7_107 (c_X7_reads l E B hk_k eq10) ⟨rfl, rfl, by decide, by decide⟩ rfl hl.1 rfl (Nat.le_of_ble_eq_true rfl) dX7_readsAll_74 (fun H locs hM => ?_)
            refine W.eq (g2 := F0 m 77 ls [.int (bz q10.1)]) rfl ?_
            refine lv_if_ne (tgt := 82) hx hb dX7_readsAll_77 (by decide) (fun c11 => ?_) (fun c11 => ?_)
            · replace h := if_h c11 h
              refine lv_aload_n hx hb dX7_readsAll_82 rfl (lv_at hl 1 rfl) ?_
              refine g7_9 CX hM hk_k wf_X7_101 dX7_readsAll_83 ?_
              refine lv_topi (fun x3_12 ex3_12 => ?_)
              replace h := nm_h ex3_12 h
              refine lv_istore_n (lv' := [(3, .int x3_12), (2, .int x2_8), (0, .ref (B + k)), (1, .int v1)]) hx hb dX7_readsAll_86 rfl hl (by decide) rfl (fun ls hl => ?_)
              refine lv_aload_n hx hb dX7_readsAll_87 rfl (lv_at hl 2 rfl) ?_
              obtain ⟨q13, eq13, h⟩ := bd_h h
              refine x_callV (As := []) CX hM (kdYl hk_k rfl) (ly7 hk_k _) rfl lk_X7_96 (c_X7_here l E B hk_k eq13) ⟨rfl, rfl, by decide, by decide⟩ rfl hl.1 rfl (Nat.le_of_ble_eq_true rfl) dX7_readsAll_88 (fun H locs hM => ?_)
              refine W.eq (g2 := F0 m 91 ls [.int q13.1]) rfl ?_
              refine lv_bipush (v := 61) hx hb dX7_readsAll_91 (by decide) ?_
              refine lv_icmp_eq (tgt := 98) hx hb dX7_readsAll_93 (by decide) (fun c14 => ?_) (fun c14 => ?_)
              · replace h := it_h c14 h
                refine lv_aload_n hx hb dX7_readsAll_98 rfl (lv_at hl 2 rfl) ?_
                refine lv_dup hx hb dX7_readsAll_99 rfl ?_
                refine g7_8 CX hM hk_k wf_X7_93 dX7_readsAll_100 ?_
                refine lv_iconst (v := 1) hx hb dX7_readsAll_103 (by decide) ?_
                refine lv_iadd hx hb dX7_readsAll_104 ?_
                refine p7_8 (y := ((q13.2 k 8) + 1)) CX hM hk_k wf_X7_93 dX7_readsAll_105 (fun H locs σ15 eσ15 hM => ?_)
                replace h := nm_h eσ15 h
                refine lv_aload_n hx hb dX7_readsAll_108 rfl (lv_at hl 2 rfl) ?_
                refine lv_bipush (v := (-40)) hx hb dX7_readsAll_109 (by decide) ?_
                refine lv_bipush (v := 40) hx hb dX7_readsAll_111 (by decide) ?_
                refine lv_iconst (v := 1) hx hb dX7_readsAll_113 (by decide) ?_
                obtain ⟨q16, eq16, h⟩ := bd_h h
                refine x_callV (As := [.int (-40), .int 40, .int 1]) CX hM (kdYl hk_k rfl) (ly7 hk_k _) rfl lk_X7_107 (c_X7_reads l E B hk_k eq16) ⟨rfl, rfl, by decide, by decide⟩ rfl hl.1 rfl (Nat.le_of_ble_eq_true rfl) dX7_readsAll_114 (fun H locs hM => ?_)
                refine W.eq (g2 := F0 m 117 ls [.int (bz q16.1)]) rfl ?_
                refine lv_if_ne (tgt := 122) hx hb dX7_readsAll_117 (by decide) (fun c17 => ?_) (fun c17 => ?_)
                · replace h := if_h c17 h
                  refine lv_aload_n hx hb dX7_readsAll_122 rfl (lv_at hl 2 rfl) ?_
                  refine g7_6 CX hM hk_k wf_X7_23 dX7_readsAll_123 ?_
                  refine lv_iconst (v := 2) hx hb dX7_readsAll_126 (by decide) ?_
                  refine lv_aload_n hx hb dX7_readsAll_127 rfl (lv_at hl 2 rfl) ?_
                  refine g7_7 CX hM hk_k wf_X7_104 dX7_readsAll_128 ?_
                  refine lv_imul hx hb dX7_readsAll_131 ?_
                  refine lv_iload_n hx hb dX7_readsAll_132 rfl (lv_at hl 0 rfl) ?_
                  obtain ⟨g18, h⟩ := ck_h h
                  refine x_iast CX hM (kdYl (kd7_f hk_k).2.2.2.2.1 rfl) (fun f => ly24 (kd7_f hk_k).2.2.2.2.1 f) g18 dX7_readsAll_133 (fun H locs σ19 eσ19 hM => ?_)
                  replace h := nm_h eσ19 h
                  refine lv_aload_n hx hb dX7_readsAll_134 rfl (lv_at hl 2 rfl) ?_
                  refine g7_6 CX hM hk_k wf_X7_23 dX7_readsAll_135 ?_
                  refine lv_iconst (v := 2) hx hb dX7_readsAll_138 (by decide) ?_
                  refine lv_aload_n hx hb dX7_readsAll_139 rfl (lv_at hl 2 rfl) ?_
                  refine g7_7 CX hM hk_k wf_X7_104 dX7_readsAll_140 ?_
                  refine lv_imul hx hb dX7_readsAll_143 ?_
                  refine lv_iconst (v := 1) hx hb dX7_readsAll_144 (by decide) ?_
                  refine lv_iadd hx hb dX7_readsAll_145 ?_
                  refine lv_aload_n hx hb dX7_readsAll_146 rfl (lv_at hl 2 rfl) ?_
                  refine g7_9 CX hM hk_k wf_X7_101 dX7_readsAll_147 ?_
                  obtain ⟨g20, h⟩ := ck_h h
                  refine x_iast CX hM (kdYl (kd7_f hk_k).2.2.2.2.1 rfl) (fun f => ly24 (kd7_f hk_k).2.2.2.2.1 f) g20 dX7_readsAll_150 (fun H locs σ21 eσ21 hM => ?_)
                  replace h := nm_h eσ21 h
                  refine lv_aload_n hx hb dX7_readsAll_151 rfl (lv_at hl 2 rfl) ?_
                  refine lv_dup hx hb dX7_readsAll_152 rfl ?_
                  refine g7_7 CX hM hk_k wf_X7_104 dX7_readsAll_153 ?_
                  refine lv_iconst (v := 1) hx hb dX7_readsAll_156 (by decide) ?_
                  refine lv_iadd hx hb dX7_readsAll_157 ?_
                  refine p7_7 (y := ((σ21 k 7) + 1)) CX hM hk_k wf_X7_104 dX7_readsAll_158 (fun H locs σ22 eσ22 hM => ?_)
                  replace h := nm_h eσ22 h
                  refine lv_aload_n hx hb dX7_readsAll_161 rfl (lv_at hl 2 rfl) ?_
                  obtain ⟨q23, eq23, h⟩ := bd_h h
                  refine x_callV (As := []) CX hM (kdYl hk_k rfl) (ly7 hk_k _) rfl lk_X7_96 (c_X7_here l E B hk_k eq23) ⟨rfl, rfl, by decide, by decide⟩ rfl hl.1 rfl (Nat.le_of_ble_eq_true rfl) dX7_readsAll_162 (fun H locs hM => ?_)
                  refine W.eq (g2 := F0 m 165 ls [.int q23.1]) rfl ?_
                  refine lv_if_lt (tgt := 172) hx hb dX7_readsAll_165 (by decide) (fun c24 => ?_) (fun c24 => ?_)
                  · replace h := it_h c24 h
                    refine lv_iconst (v := 0) hx hb dX7_readsAll_172 (by decide) ?_
                    refine lv_istore_n (lv' := [(1, .int 0), (3, .int x3_12), (2, .int x2_8), (0, .ref (B + k))]) hx hb dX7_readsAll_173 rfl hl (by decide) rfl (fun ls hl => ?_)
                    refine lv_iload_n hx hb dX7_readsAll_174 rfl (lv_at hl 0 rfl) ?_
                    refine lv_if_eq (tgt := 189) hx hb dX7_readsAll_175 (by decide) (fun c25 => ?_) (fun c25 => ?_)
                    · refine lv_aload_n hx hb dX7_readsAll_189 rfl (lv_at hl 3 rfl) ?_
                      refine lv_dup hx hb dX7_readsAll_190 rfl ?_
                      refine g7_8 CX hM hk_k wf_X7_93 dX7_readsAll_191 ?_
                      refine lv_iload_n hx hb dX7_readsAll_194 rfl (lv_at hl 0 rfl) ?_
                      refine lv_if_eq (tgt := 202) hx hb dX7_readsAll_195 (by decide) (fun c26 => ?_) (fun c26 => ?_)
                      · refine lv_iconst (v := 0) hx hb dX7_readsAll_202 (by decide) ?_
                        refine lv_iadd hx hb dX7_readsAll_203 ?_
                        refine p7_8 (y := ((q23.2 k 8) + 0)) CX hM hk_k wf_X7_93 dX7_readsAll_204 (fun H locs σ27 eσ27 hM => ?_)
                        replace h := nm_h eσ27 h
                        refine lv_goto (tgt := 23) hx hb dX7_readsAll_207 (by decide) ?_
                        exact ih _ _  _ _ _ hM (lv_sub hl [3, 0] rfl) h
                      · exact absurd c26 (by decide)
                    · exact absurd c25 (by decide)
                  · replace h := if_h c24 h
                    refine lv_iconst (v := 1) hx hb dX7_readsAll_168 (by decide) ?_
                    refine lv_goto (tgt := 173) hx hb dX7_readsAll_169 (by decide) ?_
                    refine lv_istore_n (lv' := [(1, .int 1), (3, .int x3_12), (2, .int x2_8), (0, .ref (B + k))]) hx hb dX7_readsAll_173 rfl hl (by decide) rfl (fun ls hl => ?_)
                    refine lv_iload_n hx hb dX7_readsAll_174 rfl (lv_at hl 0 rfl) ?_
                    refine lv_if_eq (tgt := 189) hx hb dX7_readsAll_175 (by decide) (fun c28 => ?_) (fun c28 => ?_)
                    · exact absurd c28 (by decide)
                    · refine lv_aload_n hx hb dX7_readsAll_178 rfl (lv_at hl 3 rfl) ?_
                      obtain ⟨q29, eq29, h⟩ := bd_h h
                      refine x_callV (As := []) CX hM (kdYl hk_k rfl) (ly7 hk_k _) rfl lk_X7_96 (c_X7_here l E B hk_k eq29) ⟨rfl, rfl, by decide, by decide⟩ rfl hl.1 rfl (Nat.le_of_ble_eq_true rfl) dX7_readsAll_179 (fun H locs hM => ?_)
                      refine W.eq (g2 := F0 m 182 ls [.int q29.1]) rfl ?_
                      refine lv_bipush (v := 59) hx hb dX7_readsAll_182 (by decide) ?_
                      refine lv_icmp_eq (tgt := 189) hx hb dX7_readsAll_184 (by decide) (fun c30 => ?_) (fun c30 => ?_)
                      · replace h := it_h c30 h
                        refine lv_aload_n hx hb dX7_readsAll_189 rfl (lv_at hl 3 rfl) ?_
                        refine lv_dup hx hb dX7_readsAll_190 rfl ?_
                        refine g7_8 CX hM hk_k wf_X7_93 dX7_readsAll_191 ?_
                        refine lv_iload_n hx hb dX7_readsAll_194 rfl (lv_at hl 0 rfl) ?_
                        refine lv_if_eq (tgt := 202) hx hb dX7_readsAll_195 (by decide) (fun c31 => ?_) (fun c31 => ?_)
                        · exact absurd c31 (by decide)
                        · refine lv_iconst (v := 1) hx hb dX7_readsAll_198 (by decide) ?_
                          refine lv_goto (tgt := 203) hx hb dX7_readsAll_199 (by decide) ?_
                          refine lv_iadd hx hb dX7_readsAll_203 ?_
                          refine p7_8 (y := ((q29.2 k 8) + 1)) CX hM hk_k wf_X7_93 dX7_readsAll_204 (fun H locs σ32 eσ32 hM => ?_)
                          replace h := nm_h eσ32 h
                          refine lv_goto (tgt := 23) hx hb dX7_readsAll_207 (by decide) ?_
                          exact ih _ _  _ _ _ hM (lv_sub hl [3, 0] rfl) h
                      · replace h := if_h c30 h
                        refine lv_iconst (v := 0) hx hb dX7_readsAll_187 (by decide) ?_
                        obtain rfl := Option.some.inj h
                        exact x_zret (y := 0) CX hr hlk hM rfl rfl dX7_readsAll_188
                · replace h := it_h c17 h
                  refine lv_iconst (v := 0) hx hb dX7_readsAll_120 (by decide) ?_
                  obtain rfl := Option.some.inj h
                  exact x_zret (y := 0) CX hr hlk hM rfl rfl dX7_readsAll_121
              · replace h := if_h c14 h
                refine lv_iconst (v := 0) hx hb dX7_readsAll_96 (by decide) ?_
                obtain rfl := Option.some.inj h
                exact x_zret (y := 0) CX hr hlk hM rfl rfl dX7_readsAll_97
            · replace h := it_h c11 h
              refine lv_iconst (v := 0) hx hb dX7_readsAll_80 (by decide) ?_
              obtain rfl := Option.some.inj h
              exact x_zret (y := 0) CX hr hlk hM rfl rfl dX7_readsAll_81
          · replace h := it_h c9 h
            refine lv_ldc (v := 100000) hx hb CX.1.2.2.2.1 (x_hts CX wc_X7_100) dX7_readsAll_64 ?_
            refine lv_goto (tgt := 70) hx hb dX7_readsAll_66 (by decide) ?_
            refine lv_sipush (v := 9999) hx hb dX7_readsAll_70 (by decide) ?_
            refine lv_iconst (v := 0) hx hb dX7_readsAll_73 (by decide) ?_
            obtain ⟨q33, eq33, h⟩ := bd_h h
            refine x_callV (As := [.int 100000, .int 9999, .int 0]) CX hM (kdYl hk_k rfl) (ly7 hk_k _) rfl lk_X7_107 (c_X7_reads l E B hk_k eq33) ⟨rfl, rfl, by decide, by decide⟩ rfl hl.1 rfl (Nat.le_of_ble_eq_true rfl) dX7_readsAll_74 (fun H locs hM => ?_)
            refine W.eq (g2 := F0 m 77 ls [.int (bz q33.1)]) rfl ?_
            refine lv_if_ne (tgt := 82) hx hb dX7_readsAll_77 (by decide) (fun c34 => ?_) (fun c34 => ?_)
            · replace h := if_h c34 h
              refine lv_aload_n hx hb dX7_readsAll_82 rfl (lv_at hl 1 rfl) ?_
              refine g7_9 CX hM hk_k wf_X7_101 dX7_readsAll_83 ?_
              refine lv_topi (fun x3_35 ex3_35 => ?_)
              replace h := nm_h ex3_35 h
              refine lv_istore_n (lv' := [(3, .int x3_35), (2, .int x2_8), (0, .ref (B + k)), (1, .int v1)]) hx hb dX7_readsAll_86 rfl hl (by decide) rfl (fun ls hl => ?_)
              refine lv_aload_n hx hb dX7_readsAll_87 rfl (lv_at hl 2 rfl) ?_
              obtain ⟨q36, eq36, h⟩ := bd_h h
              refine x_callV (As := []) CX hM (kdYl hk_k rfl) (ly7 hk_k _) rfl lk_X7_96 (c_X7_here l E B hk_k eq36) ⟨rfl, rfl, by decide, by decide⟩ rfl hl.1 rfl (Nat.le_of_ble_eq_true rfl) dX7_readsAll_88 (fun H locs hM => ?_)
              refine W.eq (g2 := F0 m 91 ls [.int q36.1]) rfl ?_
              refine lv_bipush (v := 61) hx hb dX7_readsAll_91 (by decide) ?_
              refine lv_icmp_eq (tgt := 98) hx hb dX7_readsAll_93 (by decide) (fun c37 => ?_) (fun c37 => ?_)
              · replace h := it_h c37 h
                refine lv_aload_n hx hb dX7_readsAll_98 rfl (lv_at hl 2 rfl) ?_
                refine lv_dup hx hb dX7_readsAll_99 rfl ?_
                refine g7_8 CX hM hk_k wf_X7_93 dX7_readsAll_100 ?_
                refine lv_iconst (v := 1) hx hb dX7_readsAll_103 (by decide) ?_
                refine lv_iadd hx hb dX7_readsAll_104 ?_
                refine p7_8 (y := ((q36.2 k 8) + 1)) CX hM hk_k wf_X7_93 dX7_readsAll_105 (fun H locs σ38 eσ38 hM => ?_)
                replace h := nm_h eσ38 h
                refine lv_aload_n hx hb dX7_readsAll_108 rfl (lv_at hl 2 rfl) ?_
                refine lv_bipush (v := (-40)) hx hb dX7_readsAll_109 (by decide) ?_
                refine lv_bipush (v := 40) hx hb dX7_readsAll_111 (by decide) ?_
                refine lv_iconst (v := 1) hx hb dX7_readsAll_113 (by decide) ?_
                obtain ⟨q39, eq39, h⟩ := bd_h h
                refine x_callV (As := [.int (-40), .int 40, .int 1]) CX hM (kdYl hk_k rfl) (ly7 hk_k _) rfl lk_X7_107 (c_X7_reads l E B hk_k eq39) ⟨rfl, rfl, by decide, by decide⟩ rfl hl.1 rfl (Nat.le_of_ble_eq_true rfl) dX7_readsAll_114 (fun H locs hM => ?_)
                refine W.eq (g2 := F0 m 117 ls [.int (bz q39.1)]) rfl ?_
                refine lv_if_ne (tgt := 122) hx hb dX7_readsAll_117 (by decide) (fun c40 => ?_) (fun c40 => ?_)
                · replace h := if_h c40 h
                  refine lv_aload_n hx hb dX7_readsAll_122 rfl (lv_at hl 2 rfl) ?_
                  refine g7_6 CX hM hk_k wf_X7_23 dX7_readsAll_123 ?_
                  refine lv_iconst (v := 2) hx hb dX7_readsAll_126 (by decide) ?_
                  refine lv_aload_n hx hb dX7_readsAll_127 rfl (lv_at hl 2 rfl) ?_
                  refine g7_7 CX hM hk_k wf_X7_104 dX7_readsAll_128 ?_
                  refine lv_imul hx hb dX7_readsAll_131 ?_
                  refine lv_iload_n hx hb dX7_readsAll_132 rfl (lv_at hl 0 rfl) ?_
                  obtain ⟨g41, h⟩ := ck_h h
                  refine x_iast CX hM (kdYl (kd7_f hk_k).2.2.2.2.1 rfl) (fun f => ly24 (kd7_f hk_k).2.2.2.2.1 f) g41 dX7_readsAll_133 (fun H locs σ42 eσ42 hM => ?_)
                  replace h := nm_h eσ42 h
                  refine lv_aload_n hx hb dX7_readsAll_134 rfl (lv_at hl 2 rfl) ?_
                  refine g7_6 CX hM hk_k wf_X7_23 dX7_readsAll_135 ?_
                  refine lv_iconst (v := 2) hx hb dX7_readsAll_138 (by decide) ?_
                  refine lv_aload_n hx hb dX7_readsAll_139 rfl (lv_at hl 2 rfl) ?_
                  refine g7_7 CX hM hk_k wf_X7_104 dX7_readsAll_140 ?_
                  refine lv_imul hx hb dX7_readsAll_143 ?_
                  refine lv_iconst (v := 1) hx hb dX7_readsAll_144 (by decide) ?_
                  refine lv_iadd hx hb dX7_readsAll_145 ?_
                  refine lv_aload_n hx hb dX7_readsAll_146 rfl (lv_at hl 2 rfl) ?_
                  refine g7_9 CX hM hk_k wf_X7_101 dX7_readsAll_147 ?_
                  obtain ⟨g43, h⟩ := ck_h h
                  refine x_iast CX hM (kdYl (kd7_f hk_k).2.2.2.2.1 rfl) (fun f => ly24 (kd7_f hk_k).2.2.2.2.1 f) g43 dX7_readsAll_150 (fun H locs σ44 eσ44 hM => ?_)
                  replace h := nm_h eσ44 h
                  refine lv_aload_n hx hb dX7_readsAll_151 rfl (lv_at hl 2 rfl) ?_
                  refine lv_dup hx hb dX7_readsAll_152 rfl ?_
                  refine g7_7 CX hM hk_k wf_X7_104 dX7_readsAll_153 ?_
                  refine lv_iconst (v := 1) hx hb dX7_readsAll_156 (by decide) ?_
                  refine lv_iadd hx hb dX7_readsAll_157 ?_
                  refine p7_7 (y := ((σ44 k 7) + 1)) CX hM hk_k wf_X7_104 dX7_readsAll_158 (fun H locs σ45 eσ45 hM => ?_)
                  replace h := nm_h eσ45 h
                  refine lv_aload_n hx hb dX7_readsAll_161 rfl (lv_at hl 2 rfl) ?_
                  obtain ⟨q46, eq46, h⟩ := bd_h h
                  refine x_callV (As := []) CX hM (kdYl hk_k rfl) (ly7 hk_k _) rfl lk_X7_96 (c_X7_here l E B hk_k eq46) ⟨rfl, rfl, by decide, by decide⟩ rfl hl.1 rfl (Nat.le_of_ble_eq_true rfl) dX7_readsAll_162 (fun H locs hM => ?_)
                  refine W.eq (g2 := F0 m 165 ls [.int q46.1]) rfl ?_
                  refine lv_if_lt (tgt := 172) hx hb dX7_readsAll_165 (by decide) (fun c47 => ?_) (fun c47 => ?_)
                  · replace h := it_h c47 h
                    refine lv_iconst (v := 0) hx hb dX7_readsAll_172 (by decide) ?_
                    refine lv_istore_n (lv' := [(1, .int 0), (3, .int x3_35), (2, .int x2_8), (0, .ref (B + k))]) hx hb dX7_readsAll_173 rfl hl (by decide) rfl (fun ls hl => ?_)
                    refine lv_iload_n hx hb dX7_readsAll_174 rfl (lv_at hl 0 rfl) ?_
                    refine lv_if_eq (tgt := 189) hx hb dX7_readsAll_175 (by decide) (fun c48 => ?_) (fun c48 => ?_)
                    · refine lv_aload_n hx hb dX7_readsAll_189 rfl (lv_at hl 3 rfl) ?_
                      refine lv_dup hx hb dX7_readsAll_190 rfl ?_
                      refine g7_8 CX hM hk_k wf_X7_93 dX7_readsAll_191 ?_
                      refine lv_iload_n hx hb dX7_readsAll_194 rfl (lv_at hl 0 rfl) ?_
                      refine lv_if_eq (tgt := 202) hx hb dX7_readsAll_195 (by decide) (fun c49 => ?_) (fun c49 => ?_)
                      · refine lv_iconst (v := 0) hx hb dX7_readsAll_202 (by decide) ?_
                        refine lv_iadd hx hb dX7_readsAll_203 ?_
                        refine p7_8 (y := ((q46.2 k 8) + 0)) CX hM hk_k wf_X7_93 dX7_readsAll_204 (fun H locs σ50 eσ50 hM => ?_)
                        replace h := nm_h eσ50 h
                        refine lv_goto (tgt := 23) hx hb dX7_readsAll_207 (by decide) ?_
                        exact ih _ _  _ _ _ hM (lv_sub hl [3, 0] rfl) h
                      · exact absurd c49 (by decide)
                    · exact absurd c48 (by decide)
                  · replace h := if_h c47 h
                    refine lv_iconst (v := 1) hx hb dX7_readsAll_168 (by decide) ?_
                    refine lv_goto (tgt := 173) hx hb dX7_readsAll_169 (by decide) ?_
                    refine lv_istore_n (lv' := [(1, .int 1), (3, .int x3_35), (2, .int x2_8), (0, .ref (B + k))]) hx hb dX7_readsAll_173 rfl hl (by decide) rfl (fun ls hl => ?_)
                    refine lv_iload_n hx hb dX7_readsAll_174 rfl (lv_at hl 0 rfl) ?_
                    refine lv_if_eq (tgt := 189) hx hb dX7_readsAll_175 (by decide) (fun c51 => ?_) (fun c51 => ?_)
                    · exact absurd c51 (by decide)
                    · refine lv_aload_n hx hb dX7_readsAll_178 rfl (lv_at hl 3 rfl) ?_
                      obtain ⟨q52, eq52, h⟩ := bd_h h
                      refine x_callV (As := []) CX hM (kdYl hk_k rfl) (ly7 hk_k _) rfl lk_X7_96 (c_X7_here l E B hk_k eq52) ⟨rfl, rfl, by decide, by decide⟩ rfl hl.1 rfl (Nat.le_of_ble_eq_true rfl) dX7_readsAll_179 (fun H locs hM => ?_)
                      refine W.eq (g2 := F0 m 182 ls [.int q52.1]) rfl ?_
                      refine lv_bipush (v := 59) hx hb dX7_readsAll_182 (by decide) ?_
                      refine lv_icmp_eq (tgt := 189) hx hb dX7_readsAll_184 (by decide) (fun c53 => ?_) (fun c53 => ?_)
                      · replace h := it_h c53 h
                        refine lv_aload_n hx hb dX7_readsAll_189 rfl (lv_at hl 3 rfl) ?_
                        refine lv_dup hx hb dX7_readsAll_190 rfl ?_
                        refine g7_8 CX hM hk_k wf_X7_93 dX7_readsAll_191 ?_
                        refine lv_iload_n hx hb dX7_readsAll_194 rfl (lv_at hl 0 rfl) ?_
                        refine lv_if_eq (tgt := 202) hx hb dX7_readsAll_195 (by decide) (fun c54 => ?_) (fun c54 => ?_)
                        · exact absurd c54 (by decide)
                        · refine lv_iconst (v := 1) hx hb dX7_readsAll_198 (by decide) ?_
                          refine lv_goto (tgt := 203) hx hb dX7_readsAll_199 (by decide) ?_
                          refine lv_iadd hx hb dX7_readsAll_203 ?_
                          refine p7_8 (y := ((q52.2 k 8) + 1)) CX hM hk_k wf_X7_93 dX7_readsAll_204 (fun H locs σ55 eσ55 hM => ?_)
                          replace h := nm_h eσ55 h
                          refine lv_goto (tgt := 23) hx hb dX7_readsAll_207 (by decide) ?_
                          exact ih _ _  _ _ _ hM (lv_sub hl [3, 0] rfl) h
                      · replace h := if_h c53 h
                        refine lv_iconst (v := 0) hx hb dX7_readsAll_187 (by decide) ?_
                        obtain rfl := Option.some.inj h
                        exact x_zret (y := 0) CX hr hlk hM rfl rfl dX7_readsAll_188
                · replace h := it_h c40 h
                  refine lv_iconst (v := 0) hx hb dX7_readsAll_120 (by decide) ?_
                  obtain rfl := Option.some.inj h
                  exact x_zret (y := 0) CX hr hlk hM rfl rfl dX7_readsAll_121
              · replace h := if_h c37 h
                refine lv_iconst (v := 0) hx hb dX7_readsAll_96 (by decide) ?_
                obtain rfl := Option.some.inj h
                exact x_zret (y := 0) CX hr hlk hM rfl rfl dX7_readsAll_97
            · replace h := it_h c34 h
              refine lv_iconst (v := 0) hx hb dX7_readsAll_80 (by decide) ?_
              obtain rfl := Option.some.inj h
              exact x_zret (y := 0) CX hr hlk hM rfl rfl dX7_readsAll_81
        · replace h := it_h c6 h
          refine lv_iconst (v := 0) hx hb dX7_readsAll_34 (by decide) ?_
          refine lv_goto (tgt := 53) hx hb dX7_readsAll_35 (by decide) ?_
          refine lv_istore_n (lv' := [(2, .int 0), (0, .ref (B + k)), (1, .int v1)]) hx hb dX7_readsAll_53 rfl hl (by decide) rfl (fun ls hl => ?_)
          refine lv_aload_n hx hb dX7_readsAll_54 rfl (lv_at hl 1 rfl) ?_
          refine lv_aload_n hx hb dX7_readsAll_55 rfl (lv_at hl 1 rfl) ?_
          refine g7_7 CX hM hk_k wf_X7_104 dX7_readsAll_56 ?_
          refine lv_bipush (v := 12) hx hb dX7_readsAll_59 (by decide) ?_
          refine lv_icmp_ne (tgt := 69) hx hb dX7_readsAll_61 (by decide) (fun c56 => ?_) (fun c56 => ?_)
          · replace h := if_h c56 h
            refine lv_iload_n hx hb dX7_readsAll_69 rfl (lv_at hl 0 rfl) ?_
            refine lv_sipush (v := 9999) hx hb dX7_readsAll_70 (by decide) ?_
            refine lv_iconst (v := 0) hx hb dX7_readsAll_73 (by decide) ?_
            obtain ⟨q57, eq57, h⟩ := bd_h h
            refine x_callV (As := [.int 0, .int 9999, .int 0]) CX hM (kdYl hk_k rfl) (ly7 hk_k _) rfl lk_X7_107 (c_X7_reads l E B hk_k eq57) ⟨rfl, rfl, by decide, by decide⟩ rfl hl.1 rfl (Nat.le_of_ble_eq_true rfl) dX7_readsAll_74 (fun H locs hM => ?_)
            refine W.eq (g2 := F0 m 77 ls [.int (bz q57.1)]) rfl ?_
            refine lv_if_ne (tgt := 82) hx hb dX7_readsAll_77 (by decide) (fun c58 => ?_) (fun c58 => ?_)
            · replace h := if_h c58 h
              refine lv_aload_n hx hb dX7_readsAll_82 rfl (lv_at hl 1 rfl) ?_
              refine g7_9 CX hM hk_k wf_X7_101 dX7_readsAll_83 ?_
              refine lv_topi (fun x3_59 ex3_59 => ?_)
              replace h := nm_h ex3_59 h
              refine lv_istore_n (lv' := [(3, .int x3_59), (2, .int 0), (0, .ref (B + k)), (1, .int v1)]) hx hb dX7_readsAll_86 rfl hl (by decide) rfl (fun ls hl => ?_)
              refine lv_aload_n hx hb dX7_readsAll_87 rfl (lv_at hl 2 rfl) ?_
              obtain ⟨q60, eq60, h⟩ := bd_h h
              refine x_callV (As := []) CX hM (kdYl hk_k rfl) (ly7 hk_k _) rfl lk_X7_96 (c_X7_here l E B hk_k eq60) ⟨rfl, rfl, by decide, by decide⟩ rfl hl.1 rfl (Nat.le_of_ble_eq_true rfl) dX7_readsAll_88 (fun H locs hM => ?_)
              refine W.eq (g2 := F0 m 91 ls [.int q60.1]) rfl ?_
              refine lv_bipush (v := 61) hx hb dX7_readsAll_91 (by decide) ?_
              refine lv_icmp_eq (tgt := 98) hx hb dX7_readsAll_93 (by decide) (fun c61 => ?_) (fun c61 => ?_)
              · replace h := it_h c61 h
                refine lv_aload_n hx hb dX7_readsAll_98 rfl (lv_at hl 2 rfl) ?_
                refine lv_dup hx hb dX7_readsAll_99 rfl ?_
                refine g7_8 CX hM hk_k wf_X7_93 dX7_readsAll_100 ?_
                refine lv_iconst (v := 1) hx hb dX7_readsAll_103 (by decide) ?_
                refine lv_iadd hx hb dX7_readsAll_104 ?_
                refine p7_8 (y := ((q60.2 k 8) + 1)) CX hM hk_k wf_X7_93 dX7_readsAll_105 (fun H locs σ62 eσ62 hM => ?_)
                replace h := nm_h eσ62 h
                refine lv_aload_n hx hb dX7_readsAll_108 rfl (lv_at hl 2 rfl) ?_
                refine lv_bipush (v := (-40)) hx hb dX7_readsAll_109 (by decide) ?_
                refine lv_bipush (v := 40) hx hb dX7_readsAll_111 (by decide) ?_
                refine lv_iconst (v := 1) hx hb dX7_readsAll_113 (by decide) ?_
                obtain ⟨q63, eq63, h⟩ := bd_h h
                refine x_callV (As := [.int (-40), .int 40, .int 1]) CX hM (kdYl hk_k rfl) (ly7 hk_k _) rfl lk_X7_107 (c_X7_reads l E B hk_k eq63) ⟨rfl, rfl, by decide, by decide⟩ rfl hl.1 rfl (Nat.le_of_ble_eq_true rfl) dX7_readsAll_114 (fun H locs hM => ?_)
                refine W.eq (g2 := F0 m 117 ls [.int (bz q63.1)]) rfl ?_
                refine lv_if_ne (tgt := 122) hx hb dX7_readsAll_117 (by decide) (fun c64 => ?_) (fun c64 => ?_)
                · replace h := if_h c64 h
                  refine lv_aload_n hx hb dX7_readsAll_122 rfl (lv_at hl 2 rfl) ?_
                  refine g7_6 CX hM hk_k wf_X7_23 dX7_readsAll_123 ?_
                  refine lv_iconst (v := 2) hx hb dX7_readsAll_126 (by decide) ?_
                  refine lv_aload_n hx hb dX7_readsAll_127 rfl (lv_at hl 2 rfl) ?_
                  refine g7_7 CX hM hk_k wf_X7_104 dX7_readsAll_128 ?_
                  refine lv_imul hx hb dX7_readsAll_131 ?_
                  refine lv_iload_n hx hb dX7_readsAll_132 rfl (lv_at hl 0 rfl) ?_
                  obtain ⟨g65, h⟩ := ck_h h
                  refine x_iast CX hM (kdYl (kd7_f hk_k).2.2.2.2.1 rfl) (fun f => ly24 (kd7_f hk_k).2.2.2.2.1 f) g65 dX7_readsAll_133 (fun H locs σ66 eσ66 hM => ?_)
                  replace h := nm_h eσ66 h
                  refine lv_aload_n hx hb dX7_readsAll_134 rfl (lv_at hl 2 rfl) ?_
                  refine g7_6 CX hM hk_k wf_X7_23 dX7_readsAll_135 ?_
                  refine lv_iconst (v := 2) hx hb dX7_readsAll_138 (by decide) ?_
                  refine lv_aload_n hx hb dX7_readsAll_139 rfl (lv_at hl 2 rfl) ?_
                  refine g7_7 CX hM hk_k wf_X7_104 dX7_readsAll_140 ?_
                  refine lv_imul hx hb dX7_readsAll_143 ?_
                  refine lv_iconst (v := 1) hx hb dX7_readsAll_144 (by decide) ?_
                  refine lv_iadd hx hb dX7_readsAll_145 ?_
                  refine lv_aload_n hx hb dX7_readsAll_146 rfl (lv_at hl 2 rfl) ?_
                  refine g7_9 CX hM hk_k wf_X7_101 dX7_readsAll_147 ?_
                  obtain ⟨g67, h⟩ := ck_h h
                  refine x_iast CX hM (kdYl (kd7_f hk_k).2.2.2.2.1 rfl) (fun f => ly24 (kd7_f hk_k).2.2.2.2.1 f) g67 dX7_readsAll_150 (fun H locs σ68 eσ68 hM => ?_)
                  replace h := nm_h eσ68 h
                  refine lv_aload_n hx hb dX7_readsAll_151 rfl (lv_at hl 2 rfl) ?_
                  refine lv_dup hx hb dX7_readsAll_152 rfl ?_
                  refine g7_7 CX hM hk_k wf_X7_104 dX7_readsAll_153 ?_
                  refine lv_iconst (v := 1) hx hb dX7_readsAll_156 (by decide) ?_
                  refine lv_iadd hx hb dX7_readsAll_157 ?_
                  refine p7_7 (y := ((σ68 k 7) + 1)) CX hM hk_k wf_X7_104 dX7_readsAll_158 (fun H locs σ69 eσ69 hM => ?_)
                  replace h := nm_h eσ69 h
                  refine lv_aload_n hx hb dX7_readsAll_161 rfl (lv_at hl 2 rfl) ?_
                  obtain ⟨q70, eq70, h⟩ := bd_h h
                  refine x_callV (As := []) CX hM (kdYl hk_k rfl) (ly7 hk_k _) rfl lk_X7_96 (c_X7_here l E B hk_k eq70) ⟨rfl, rfl, by decide, by decide⟩ rfl hl.1 rfl (Nat.le_of_ble_eq_true rfl) dX7_readsAll_162 (fun H locs hM => ?_)
                  refine W.eq (g2 := F0 m 165 ls [.int q70.1]) rfl ?_
                  refine lv_if_lt (tgt := 172) hx hb dX7_readsAll_165 (by decide) (fun c71 => ?_) (fun c71 => ?_)
                  · replace h := it_h c71 h
                    refine lv_iconst (v := 0) hx hb dX7_readsAll_172 (by decide) ?_
                    refine lv_istore_n (lv' := [(1, .int 0), (3, .int x3_59), (2, .int 0), (0, .ref (B + k))]) hx hb dX7_readsAll_173 rfl hl (by decide) rfl (fun ls hl => ?_)
                    refine lv_iload_n hx hb dX7_readsAll_174 rfl (lv_at hl 0 rfl) ?_
                    refine lv_if_eq (tgt := 189) hx hb dX7_readsAll_175 (by decide) (fun c72 => ?_) (fun c72 => ?_)
                    · refine lv_aload_n hx hb dX7_readsAll_189 rfl (lv_at hl 3 rfl) ?_
                      refine lv_dup hx hb dX7_readsAll_190 rfl ?_
                      refine g7_8 CX hM hk_k wf_X7_93 dX7_readsAll_191 ?_
                      refine lv_iload_n hx hb dX7_readsAll_194 rfl (lv_at hl 0 rfl) ?_
                      refine lv_if_eq (tgt := 202) hx hb dX7_readsAll_195 (by decide) (fun c73 => ?_) (fun c73 => ?_)
                      · refine lv_iconst (v := 0) hx hb dX7_readsAll_202 (by decide) ?_
                        refine lv_iadd hx hb dX7_readsAll_203 ?_
                        refine p7_8 (y := ((q70.2 k 8) + 0)) CX hM hk_k wf_X7_93 dX7_readsAll_204 (fun H locs σ74 eσ74 hM => ?_)
                        replace h := nm_h eσ74 h
                        refine lv_goto (tgt := 23) hx hb dX7_readsAll_207 (by decide) ?_
                        exact ih _ _  _ _ _ hM (lv_sub hl [3, 0] rfl) h
                      · exact absurd c73 (by decide)
                    · exact absurd c72 (by decide)
                  · replace h := if_h c71 h
                    refine lv_iconst (v := 1) hx hb dX7_readsAll_168 (by decide) ?_
                    refine lv_goto (tgt := 173) hx hb dX7_readsAll_169 (by decide) ?_
                    refine lv_istore_n (lv' := [(1, .int 1), (3, .int x3_59), (2, .int 0), (0, .ref (B + k))]) hx hb dX7_readsAll_173 rfl hl (by decide) rfl (fun ls hl => ?_)
                    refine lv_iload_n hx hb dX7_readsAll_174 rfl (lv_at hl 0 rfl) ?_
                    refine lv_if_eq (tgt := 189) hx hb dX7_readsAll_175 (by decide) (fun c75 => ?_) (fun c75 => ?_)
                    · exact absurd c75 (by decide)
                    · refine lv_aload_n hx hb dX7_readsAll_178 rfl (lv_at hl 3 rfl) ?_
                      obtain ⟨q76, eq76, h⟩ := bd_h h
                      refine x_callV (As := []) CX hM (kdYl hk_k rfl) (ly7 hk_k _) rfl lk_X7_96 (c_X7_here l E B hk_k eq76) ⟨rfl, rfl, by decide, by decide⟩ rfl hl.1 rfl (Nat.le_of_ble_eq_true rfl) dX7_readsAll_179 (fun H locs hM => ?_)
                      refine W.eq (g2 := F0 m 182 ls [.int q76.1]) rfl ?_
                      refine lv_bipush (v := 59) hx hb dX7_readsAll_182 (by decide) ?_
                      refine lv_icmp_eq (tgt := 189) hx hb dX7_readsAll_184 (by decide) (fun c77 => ?_) (fun c77 => ?_)
                      · replace h := it_h c77 h
                        refine lv_aload_n hx hb dX7_readsAll_189 rfl (lv_at hl 3 rfl) ?_
                        refine lv_dup hx hb dX7_readsAll_190 rfl ?_
                        refine g7_8 CX hM hk_k wf_X7_93 dX7_readsAll_191 ?_
                        refine lv_iload_n hx hb dX7_readsAll_194 rfl (lv_at hl 0 rfl) ?_
                        refine lv_if_eq (tgt := 202) hx hb dX7_readsAll_195 (by decide) (fun c78 => ?_) (fun c78 => ?_)
                        · exact absurd c78 (by decide)
                        · refine lv_iconst (v := 1) hx hb dX7_readsAll_198 (by decide) ?_
                          refine lv_goto (tgt := 203) hx hb dX7_readsAll_199 (by decide) ?_
                          refine lv_iadd hx hb dX7_readsAll_203 ?_
                          refine p7_8 (y := ((q76.2 k 8) + 1)) CX hM hk_k wf_X7_93 dX7_readsAll_204 (fun H locs σ79 eσ79 hM => ?_)
                          replace h := nm_h eσ79 h
                          refine lv_goto (tgt := 23) hx hb dX7_readsAll_207 (by decide) ?_
                          exact ih _ _  _ _ _ hM (lv_sub hl [3, 0] rfl) h
                      · replace h := if_h c77 h
                        refine lv_iconst (v := 0) hx hb dX7_readsAll_187 (by decide) ?_
                        obtain rfl := Option.some.inj h
                        exact x_zret (y := 0) CX hr hlk hM rfl rfl dX7_readsAll_188
                · replace h := it_h c64 h
                  refine lv_iconst (v := 0) hx hb dX7_readsAll_120 (by decide) ?_
                  obtain rfl := Option.some.inj h
                  exact x_zret (y := 0) CX hr hlk hM rfl rfl dX7_readsAll_121
              · replace h := if_h c61 h
                refine lv_iconst (v := 0) hx hb dX7_readsAll_96 (by decide) ?_
                obtain rfl := Option.some.inj h
                exact x_zret (y := 0) CX hr hlk hM rfl rfl dX7_readsAll_97
            · replace h := it_h c58 h
              refine lv_iconst (v := 0) hx hb dX7_readsAll_80 (by decide) ?_
              obtain rfl := Option.some.inj h
              exact x_zret (y := 0) CX hr hlk hM rfl rfl dX7_readsAll_81
          · replace h := it_h c56 h
            refine lv_ldc (v := 100000) hx hb CX.1.2.2.2.1 (x_hts CX wc_X7_100) dX7_readsAll_64 ?_
            refine lv_goto (tgt := 70) hx hb dX7_readsAll_66 (by decide) ?_
            refine lv_sipush (v := 9999) hx hb dX7_readsAll_70 (by decide) ?_
            refine lv_iconst (v := 0) hx hb dX7_readsAll_73 (by decide) ?_
            obtain ⟨q80, eq80, h⟩ := bd_h h
            refine x_callV (As := [.int 100000, .int 9999, .int 0]) CX hM (kdYl hk_k rfl) (ly7 hk_k _) rfl lk_X7_107 (c_X7_reads l E B hk_k eq80) ⟨rfl, rfl, by decide, by decide⟩ rfl hl.1 rfl (Nat.le_of_ble_eq_true rfl) dX7_readsAll_74 (fun H locs hM => ?_)
            refine W.eq (g2 := F0 m 77 ls [.int (bz q80.1)]) rfl ?_
            refine lv_if_ne (tgt := 82) hx hb dX7_readsAll_77 (by decide) (fun c81 => ?_) (fun c81 => ?_)
            · replace h := if_h c81 h
              refine lv_aload_n hx hb dX7_readsAll_82 rfl (lv_at hl 1 rfl) ?_
              refine g7_9 CX hM hk_k wf_X7_101 dX7_readsAll_83 ?_
              refine lv_topi (fun x3_82 ex3_82 => ?_)
              replace h := nm_h ex3_82 h
              refine lv_istore_n (lv' := [(3, .int x3_82), (2, .int 0), (0, .ref (B + k)), (1, .int v1)]) hx hb dX7_readsAll_86 rfl hl (by decide) rfl (fun ls hl => ?_)
              refine lv_aload_n hx hb dX7_readsAll_87 rfl (lv_at hl 2 rfl) ?_
              obtain ⟨q83, eq83, h⟩ := bd_h h
              refine x_callV (As := []) CX hM (kdYl hk_k rfl) (ly7 hk_k _) rfl lk_X7_96 (c_X7_here l E B hk_k eq83) ⟨rfl, rfl, by decide, by decide⟩ rfl hl.1 rfl (Nat.le_of_ble_eq_true rfl) dX7_readsAll_88 (fun H locs hM => ?_)
              refine W.eq (g2 := F0 m 91 ls [.int q83.1]) rfl ?_
              refine lv_bipush (v := 61) hx hb dX7_readsAll_91 (by decide) ?_
              refine lv_icmp_eq (tgt := 98) hx hb dX7_readsAll_93 (by decide) (fun c84 => ?_) (fun c84 => ?_)
              · replace h := it_h c84 h
                refine lv_aload_n hx hb dX7_readsAll_98 rfl (lv_at hl 2 rfl) ?_
                refine lv_dup hx hb dX7_readsAll_99 rfl ?_
                refine g7_8 CX hM hk_k wf_X7_93 dX7_readsAll_100 ?_
                refine lv_iconst (v := 1) hx hb dX7_readsAll_103 (by decide) ?_
                refine lv_iadd hx hb dX7_readsAll_104 ?_
                refine p7_8 (y := ((q83.2 k 8) + 1)) CX hM hk_k wf_X7_93 dX7_readsAll_105 (fun H locs σ85 eσ85 hM => ?_)
                replace h := nm_h eσ85 h
                refine lv_aload_n hx hb dX7_readsAll_108 rfl (lv_at hl 2 rfl) ?_
                refine lv_bipush (v := (-40)) hx hb dX7_readsAll_109 (by decide) ?_
                refine lv_bipush (v := 40) hx hb dX7_readsAll_111 (by decide) ?_
                refine lv_iconst (v := 1) hx hb dX7_readsAll_113 (by decide) ?_
                obtain ⟨q86, eq86, h⟩ := bd_h h
                refine x_callV (As := [.int (-40), .int 40, .int 1]) CX hM (kdYl hk_k rfl) (ly7 hk_k _) rfl lk_X7_107 (c_X7_reads l E B hk_k eq86) ⟨rfl, rfl, by decide, by decide⟩ rfl hl.1 rfl (Nat.le_of_ble_eq_true rfl) dX7_readsAll_114 (fun H locs hM => ?_)
                refine W.eq (g2 := F0 m 117 ls [.int (bz q86.1)]) rfl ?_
                refine lv_if_ne (tgt := 122) hx hb dX7_readsAll_117 (by decide) (fun c87 => ?_) (fun c87 => ?_)
                · replace h := if_h c87 h
                  refine lv_aload_n hx hb dX7_readsAll_122 rfl (lv_at hl 2 rfl) ?_
                  refine g7_6 CX hM hk_k wf_X7_23 dX7_readsAll_123 ?_
                  refine lv_iconst (v := 2) hx hb dX7_readsAll_126 (by decide) ?_
                  refine lv_aload_n hx hb dX7_readsAll_127 rfl (lv_at hl 2 rfl) ?_
                  refine g7_7 CX hM hk_k wf_X7_104 dX7_readsAll_128 ?_
                  refine lv_imul hx hb dX7_readsAll_131 ?_
                  refine lv_iload_n hx hb dX7_readsAll_132 rfl (lv_at hl 0 rfl) ?_
                  obtain ⟨g88, h⟩ := ck_h h
                  refine x_iast CX hM (kdYl (kd7_f hk_k).2.2.2.2.1 rfl) (fun f => ly24 (kd7_f hk_k).2.2.2.2.1 f) g88 dX7_readsAll_133 (fun H locs σ89 eσ89 hM => ?_)
                  replace h := nm_h eσ89 h
                  refine lv_aload_n hx hb dX7_readsAll_134 rfl (lv_at hl 2 rfl) ?_
                  refine g7_6 CX hM hk_k wf_X7_23 dX7_readsAll_135 ?_
                  refine lv_iconst (v := 2) hx hb dX7_readsAll_138 (by decide) ?_
                  refine lv_aload_n hx hb dX7_readsAll_139 rfl (lv_at hl 2 rfl) ?_
                  refine g7_7 CX hM hk_k wf_X7_104 dX7_readsAll_140 ?_
                  refine lv_imul hx hb dX7_readsAll_143 ?_
                  refine lv_iconst (v := 1) hx hb dX7_readsAll_144 (by decide) ?_
                  refine lv_iadd hx hb dX7_readsAll_145 ?_
                  refine lv_aload_n hx hb dX7_readsAll_146 rfl (lv_at hl 2 rfl) ?_
                  refine g7_9 CX hM hk_k wf_X7_101 dX7_readsAll_147 ?_
                  obtain ⟨g90, h⟩ := ck_h h
                  refine x_iast CX hM (kdYl (kd7_f hk_k).2.2.2.2.1 rfl) (fun f => ly24 (kd7_f hk_k).2.2.2.2.1 f) g90 dX7_readsAll_150 (fun H locs σ91 eσ91 hM => ?_)
                  replace h := nm_h eσ91 h
                  refine lv_aload_n hx hb dX7_readsAll_151 rfl (lv_at hl 2 rfl) ?_
                  refine lv_dup hx hb dX7_readsAll_152 rfl ?_
                  refine g7_7 CX hM hk_k wf_X7_104 dX7_readsAll_153 ?_
                  refine lv_iconst (v := 1) hx hb dX7_readsAll_156 (by decide) ?_
                  refine lv_iadd hx hb dX7_readsAll_157 ?_
                  refine p7_7 (y := ((σ91 k 7) + 1)) CX hM hk_k wf_X7_104 dX7_readsAll_158 (fun H locs σ92 eσ92 hM => ?_)
                  replace h := nm_h eσ92 h
                  refine lv_aload_n hx hb dX7_readsAll_161 rfl (lv_at hl 2 rfl) ?_
                  obtain ⟨q93, eq93, h⟩ := bd_h h
                  refine x_callV (As := []) CX hM (kdYl hk_k rfl) (ly7 hk_k _) rfl lk_X7_96 (c_X7_here l E B hk_k eq93) ⟨rfl, rfl, by decide, by decide⟩ rfl hl.1 rfl (Nat.le_of_ble_eq_true rfl) dX7_readsAll_162 (fun H locs hM => ?_)
                  refine W.eq (g2 := F0 m 165 ls [.int q93.1]) rfl ?_
                  refine lv_if_lt (tgt := 172) hx hb dX7_readsAll_165 (by decide) (fun c94 => ?_) (fun c94 => ?_)
                  · replace h := it_h c94 h
                    refine lv_iconst (v := 0) hx hb dX7_readsAll_172 (by decide) ?_
                    refine lv_istore_n (lv' := [(1, .int 0), (3, .int x3_82), (2, .int 0), (0, .ref (B + k))]) hx hb dX7_readsAll_173 rfl hl (by decide) rfl (fun ls hl => ?_)
                    refine lv_iload_n hx hb dX7_readsAll_174 rfl (lv_at hl 0 rfl) ?_
                    refine lv_if_eq (tgt := 189) hx hb dX7_readsAll_175 (by decide) (fun c95 => ?_) (fun c95 => ?_)
                    · refine lv_aload_n hx hb dX7_readsAll_189 rfl (lv_at hl 3 rfl) ?_
                      refine lv_dup hx hb dX7_readsAll_190 rfl ?_
                      refine g7_8 CX hM hk_k wf_X7_93 dX7_readsAll_191 ?_
                      refine lv_iload_n hx hb dX7_readsAll_194 rfl (lv_at hl 0 rfl) ?_
                      refine lv_if_eq (tgt := 202) hx hb dX7_readsAll_195 (by decide) (fun c96 => ?_) (fun c96 => ?_)
                      · refine lv_iconst (v := 0) hx hb dX7_readsAll_202 (by decide) ?_
                        refine lv_iadd hx hb dX7_readsAll_203 ?_
                        refine p7_8 (y := ((q93.2 k 8) + 0)) CX hM hk_k wf_X7_93 dX7_readsAll_204 (fun H locs σ97 eσ97 hM => ?_)
                        replace h := nm_h eσ97 h
                        refine lv_goto (tgt := 23) hx hb dX7_readsAll_207 (by decide) ?_
                        exact ih _ _  _ _ _ hM (lv_sub hl [3, 0] rfl) h
                      · exact absurd c96 (by decide)
                    · exact absurd c95 (by decide)
                  · replace h := if_h c94 h
                    refine lv_iconst (v := 1) hx hb dX7_readsAll_168 (by decide) ?_
                    refine lv_goto (tgt := 173) hx hb dX7_readsAll_169 (by decide) ?_
                    refine lv_istore_n (lv' := [(1, .int 1), (3, .int x3_82), (2, .int 0), (0, .ref (B + k))]) hx hb dX7_readsAll_173 rfl hl (by decide) rfl (fun ls hl => ?_)
                    refine lv_iload_n hx hb dX7_readsAll_174 rfl (lv_at hl 0 rfl) ?_
                    refine lv_if_eq (tgt := 189) hx hb dX7_readsAll_175 (by decide) (fun c98 => ?_) (fun c98 => ?_)
                    · exact absurd c98 (by decide)
                    · refine lv_aload_n hx hb dX7_readsAll_178 rfl (lv_at hl 3 rfl) ?_
                      obtain ⟨q99, eq99, h⟩ := bd_h h
                      refine x_callV (As := []) CX hM (kdYl hk_k rfl) (ly7 hk_k _) rfl lk_X7_96 (c_X7_here l E B hk_k eq99) ⟨rfl, rfl, by decide, by decide⟩ rfl hl.1 rfl (Nat.le_of_ble_eq_true rfl) dX7_readsAll_179 (fun H locs hM => ?_)
                      refine W.eq (g2 := F0 m 182 ls [.int q99.1]) rfl ?_
                      refine lv_bipush (v := 59) hx hb dX7_readsAll_182 (by decide) ?_
                      refine lv_icmp_eq (tgt := 189) hx hb dX7_readsAll_184 (by decide) (fun c100 => ?_) (fun c100 => ?_)
                      · replace h := it_h c100 h
                        refine lv_aload_n hx hb dX7_readsAll_189 rfl (lv_at hl 3 rfl) ?_
                        refine lv_dup hx hb dX7_readsAll_190 rfl ?_
                        refine g7_8 CX hM hk_k wf_X7_93 dX7_readsAll_191 ?_
                        refine lv_iload_n hx hb dX7_readsAll_194 rfl (lv_at hl 0 rfl) ?_
                        refine lv_if_eq (tgt := 202) hx hb dX7_readsAll_195 (by decide) (fun c101 => ?_) (fun c101 => ?_)
                        · exact absurd c101 (by decide)
                        · refine lv_iconst (v := 1) hx hb dX7_readsAll_198 (by decide) ?_
                          refine lv_goto (tgt := 203) hx hb dX7_readsAll_199 (by decide) ?_
                          refine lv_iadd hx hb dX7_readsAll_203 ?_
                          refine p7_8 (y := ((q99.2 k 8) + 1)) CX hM hk_k wf_X7_93 dX7_readsAll_204 (fun H locs σ102 eσ102 hM => ?_)
                          replace h := nm_h eσ102 h
                          refine lv_goto (tgt := 23) hx hb dX7_readsAll_207 (by decide) ?_
                          exact ih _ _  _ _ _ hM (lv_sub hl [3, 0] rfl) h
                      · replace h := if_h c100 h
                        refine lv_iconst (v := 0) hx hb dX7_readsAll_187 (by decide) ?_
                        obtain rfl := Option.some.inj h
                        exact x_zret (y := 0) CX hr hlk hM rfl rfl dX7_readsAll_188
                · replace h := it_h c87 h
                  refine lv_iconst (v := 0) hx hb dX7_readsAll_120 (by decide) ?_
                  obtain rfl := Option.some.inj h
                  exact x_zret (y := 0) CX hr hlk hM rfl rfl dX7_readsAll_121
              · replace h := if_h c84 h
                refine lv_iconst (v := 0) hx hb dX7_readsAll_96 (by decide) ?_
                obtain rfl := Option.some.inj h
                exact x_zret (y := 0) CX hr hlk hM rfl rfl dX7_readsAll_97
            · replace h := it_h c81 h
              refine lv_iconst (v := 0) hx hb dX7_readsAll_80 (by decide) ?_
              obtain rfl := Option.some.inj h
              exact x_zret (y := 0) CX hr hlk hM rfl rfl dX7_readsAll_81
  have J22 : ∀ (y0 : Int32) (σ : xM), ∀ (H : Heap) (locs : List Loc) (ls : Array Slot), xS E B 7 (layY E B) s σ H locs → lv_has ls 4 [(0, .ref (B + k))] → F_X7_readsAll_J22 k y0 σ = some q → W p l e rm_X7_readsAll s m ([.ref (B + k)] : List Value).toArray below meth c H locs 0 0 (MQ below (xQ E B 7 (layY E B) (some (.int (bz q.1))) q.2) ([.ref (B + k)] : List Value).toArray s 0 0 (wA B 7)) (F0 m 22 ls [.int y0]) := by
    clear hM hl h
    intro y0 σ  H locs ls hM hl h
    unfold F_X7_readsAll_J22 at h
    refine lv_istore_n (lv' := [(1, .int y0), (0, .ref (B + k))]) hx hb dX7_readsAll_22 rfl hl (by decide) rfl (fun ls hl => ?_)
    exact L23 _ _ _  _ _ _ hM (lv_sub hl [1, 0] rfl) h
  refine lv_aload_n hx hb dX7_readsAll_0 rfl (lv_at hl 0 rfl) ?_
  refine lv_iconst (v := 0) hx hb dX7_readsAll_1 (by decide) ?_
  refine p7_8 (y := 0) CX hM hk_k wf_X7_93 dX7_readsAll_2 (fun H locs σ1 eσ1 hM => ?_)
  replace h := nm_h eσ1 h
  refine lv_aload_n hx hb dX7_readsAll_5 rfl (lv_at hl 0 rfl) ?_
  refine lv_iconst (v := 0) hx hb dX7_readsAll_6 (by decide) ?_
  refine p7_7 (y := 0) CX hM hk_k wf_X7_104 dX7_readsAll_7 (fun H locs σ2 eσ2 hM => ?_)
  replace h := nm_h eσ2 h
  refine lv_aload_n hx hb dX7_readsAll_10 rfl (lv_at hl 0 rfl) ?_
  obtain ⟨q3, eq3, h⟩ := bd_h h
  refine x_callV (As := []) CX hM (kdYl hk_k rfl) (ly7 hk_k _) rfl lk_X7_96 (c_X7_here l E B hk_k eq3) ⟨rfl, rfl, by decide, by decide⟩ rfl hl.1 rfl (Nat.le_of_ble_eq_true rfl) dX7_readsAll_11 (fun H locs hM => ?_)
  refine W.eq (g2 := F0 m 14 ls [.int q3.1]) rfl ?_
  refine lv_if_lt (tgt := 21) hx hb dX7_readsAll_14 (by decide) (fun c4 => ?_) (fun c4 => ?_)
  · replace h := it_h c4 h
    refine lv_iconst (v := 0) hx hb dX7_readsAll_21 (by decide) ?_
    exact J22 _ _  _ _ _ hM (lv_sub hl [0] rfl) h
  · replace h := if_h c4 h
    refine lv_iconst (v := 1) hx hb dX7_readsAll_17 (by decide) ?_
    refine lv_goto (tgt := 22) hx hb dX7_readsAll_18 (by decide) ?_
    exact J22 _ _  _ _ _ hM (lv_sub hl [0] rfl) h
