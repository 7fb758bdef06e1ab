def rm_X2_restore : Jvm.Room := { frames := 3, cells := 0, slots := 0, locals := 71 }
set_option maxHeartbeats 4000000 in
set_option maxRecDepth 100000 in
theorem c_X2_restore (l : Launch) (E : xE) (B : Nat) {k : Nat} {r1 : Nat} {σ : xM} {q : Unit × xM} (hk_k : kd k = 2) (hk_r1 : kd r1 = 1) (h : F_X2_restore k r1 σ = some q) : Met l yX2_restore (Cond.code yX2_restore cX2_restore 4 none :: AL) rm_X2_restore (xP E B 160 (layX E B) [.ref (B + k), .ref (B + r1)] σ) (xQ E B 160 (layX E B) none q.2) 0 0 (wA B 160) := by
  refine x_met (plainFor_of_name (by decide +kernel)) (Nat.le_of_ble_eq_true rfl) rfl ?_
  intro p e s m below meth c ls CX hr hlk hM hl
  have hx := CX.1.1
  have hb := CX.1.2.1
  unfold F_X2_restore at h
  refine lv_aload_n hx hb dX2_restore_0 rfl (lv_at hl 0 rfl) ?_
  refine g2_1 CX hM hk_k wf_X2_18 dX2_restore_1 ?_
  refine lv_bipush (v := 6) hx hb dX2_restore_4 (by decide) ?_
  refine lv_iadd hx hb dX2_restore_6 ?_
  refine lv_iconst (v := 1) hx hb dX2_restore_7 (by decide) ?_
  refine lv_isub hx hb dX2_restore_8 ?_
  refine lv_bipush (v := 6) hx hb dX2_restore_9 (by decide) ?_
  refine lv_irem hx hb dX2_restore_11 (by decide) ?_
  refine lv_topi (fun x2_1 ex2_1 => ?_)
  replace h := nm_h ex2_1 h
  refine lv_istore_n (lv' := [(2, .int x2_1), (0, .ref (B + k)), (1, .ref (B + r1))]) hx hb dX2_restore_12 rfl hl (by decide) rfl (fun ls hl => ?_)
  refine lv_aload_n hx hb dX2_restore_13 rfl (lv_at hl 1 rfl) ?_
  refine lv_iload_n hx hb dX2_restore_14 rfl (lv_at hl 0 rfl) ?_
  obtain ⟨q2, eq2, h⟩ := bd_h h
  refine x_callV (As := [.int x2_1]) CX hM (kdl hk_k rfl) (ly2 hk_k _) rfl lk_X2_22 (c_X2_stateAt l E B hk_k eq2) ⟨rfl, rfl, by decide, by decide⟩ rfl hl.1 rfl (Nat.le_of_ble_eq_true rfl) dX2_restore_15 (fun H locs hM => ?_)
  rcases hq2 : q2.1 with _ | r3
  · rw [hq2] at h
    replace h := oc_n h
    refine W.eq (g2 := F0 m 18 ls [.null]) rfl ?_
    refine lv_astore_nN (lv' := [(3, .null), (2, .int x2_1), (0, .ref (B + k)), (1, .ref (B + r1))]) hx hb dX2_restore_18 rfl hl (by decide) rfl (fun ls hl => ?_)
    refine lv_aload_nN hx hb dX2_restore_19 rfl (lv_at hl 0 rfl) ?_
    refine lv_ifnullN (tgt := 50) hx hb dX2_restore_20 (by decide) ?_
    obtain rfl := Option.some.inj h
    exact x_vret CX hr hlk hM rfl dX2_restore_50
  · rw [hq2] at h
    replace h := oc_s h
    obtain ⟨hk_r3, h⟩ := ck_h h
    refine W.eq (g2 := F0 m 18 ls [.ref (B + r3)]) rfl ?_
    refine lv_astore_n (lv' := [(3, .ref (B + r3)), (2, .int x2_1), (0, .ref (B + k)), (1, .ref (B + r1))]) hx hb dX2_restore_18 rfl hl (by decide) rfl (fun ls hl => ?_)
    refine lv_aload_n hx hb dX2_restore_19 rfl (lv_at hl 0 rfl) ?_
    refine lv_ifnull hx hb dX2_restore_20 ?_
    refine lv_aload_n hx hb dX2_restore_23 rfl (lv_at hl 2 rfl) ?_
    refine g2_2 CX hM hk_k wf_X2_30 dX2_restore_24 ?_
    refine lv_if_le (tgt := 50) hx hb dX2_restore_27 (by decide) (fun c4 => ?_) (fun c4 => ?_)
    · replace h := it_h c4 h
      obtain rfl := Option.some.inj h
      exact x_vret CX hr hlk hM rfl dX2_restore_50
    · replace h := if_h c4 h
      refine lv_aload_n hx hb dX2_restore_30 rfl (lv_at hl 3 rfl) ?_
      refine lv_aload_n hx hb dX2_restore_31 rfl (lv_at hl 0 rfl) ?_
      obtain ⟨q5, eq5, h⟩ := bd_h h
      refine x_callV (As := [.ref (B + r3)]) CX hM (kdl hk_r1 rfl) (ly1 hk_r1 _) rfl lk_X2_26 (c_X1_copyFrom l E B hk_r1 hk_r3 eq5) ⟨rfl, rfl, by decide, by decide⟩ rfl hl.1 rfl (Nat.le_of_ble_eq_true rfl) dX2_restore_32 (fun H locs hM => ?_)
      refine W.eq (g2 := F0 m 35 ls []) rfl ?_
      refine lv_aload_n hx hb dX2_restore_35 rfl (lv_at hl 2 rfl) ?_
      refine lv_iload_n hx hb dX2_restore_36 rfl (lv_at hl 1 rfl) ?_
      refine p2_1 (y := x2_1) CX hM hk_k wf_X2_18 dX2_restore_37 (fun H locs σ6 eσ6 hM => ?_)
      replace h := nm_h eσ6 h
      refine lv_aload_n hx hb dX2_restore_40 rfl (lv_at hl 2 rfl) ?_
      refine lv_dup hx hb dX2_restore_41 rfl ?_
      refine g2_2 CX hM hk_k wf_X2_30 dX2_restore_42 ?_
      refine lv_iconst (v := 1) hx hb dX2_restore_45 (by decide) ?_
      refine lv_isub hx hb dX2_restore_46 ?_
      refine p2_2 (y := ((σ6 k 2) - 1)) CX hM hk_k wf_X2_30 dX2_restore_47 (fun H locs σ7 eσ7 hM => ?_)
      replace h := nm_h eσ7 h
      obtain rfl := Option.some.inj h
      exact x_vret CX hr hlk hM rfl dX2_restore_50
def rm_X3_bringIn : Jvm.Room := { frames := 0, cells := 0, slots := 0, locals := 0 }
set_option maxHeartbeats 4000000 in
set_option maxRecDepth 100000 in
theorem c_X3_bringIn (l : Launch) (E : xE) (B : Nat) {k : Nat} {x1 : Int32} {σ : xM} {q : Unit × xM} (hk_k : kd k = 3) (h : F_X3_bringIn k x1 σ = some q) : Met l yX3_bringIn (Cond.code yX3_bringIn cX3_bringIn 2 none :: AL) rm_X3_bringIn (xP E B 160 (layX E B) [.ref (B + k), .int x1] σ) (xQ E B 160 (layX E B) none q.2) 0 0 (wA B 160) := by
  refine x_met (plainFor_of_name (by decide +kernel)) (Nat.le_of_ble_eq_true rfl) rfl ?_
  intro p e s m below meth c ls CX hr hlk hM hl
  have hx := CX.1.1
  have hb := CX.1.2.1
  unfold F_X3_bringIn at h
  refine lv_aload_n hx hb dX3_bringIn_0 rfl (lv_at hl 0 rfl) ?_
  refine lv_dup hx hb dX3_bringIn_1 rfl ?_
  refine g3_4 CX hM hk_k wf_X3_28 dX3_bringIn_2 ?_
  refine lv_iload_n hx hb dX3_bringIn_5 rfl (lv_at hl 1 rfl) ?_
  refine lv_iadd hx hb dX3_bringIn_6 ?_
  refine p3_4 (y := ((σ k 4) + x1)) CX hM hk_k wf_X3_28 dX3_bringIn_7 (fun H locs σ1 eσ1 hM => ?_)
  replace h := nm_h eσ1 h
  refine lv_aload_n hx hb dX3_bringIn_10 rfl (lv_at hl 0 rfl) ?_
  refine g3_0 CX hM hk_k wf_X3_12 dX3_bringIn_11 ?_
  refine lv_dup hx hb dX3_bringIn_14 rfl ?_
  refine g0_4 CX hM (kd3_f hk_k) wf_X3_94 dX3_bringIn_15 ?_
  refine lv_iload_n hx hb dX3_bringIn_18 rfl (lv_at hl 1 rfl) ?_
  refine lv_iadd hx hb dX3_bringIn_19 ?_
  refine p0_4 (y := ((σ1 (k + 1) 4) + x1)) CX hM (kd3_f hk_k) wf_X3_94 dX3_bringIn_20 (fun H locs σ2 eσ2 hM => ?_)
  replace h := nm_h eσ2 h
  obtain rfl := Option.some.inj h
  exact x_vret CX hr hlk hM rfl dX3_bringIn_23
def rm_X3_renewContact : Jvm.Room := { frames := 0, cells := 0, slots := 0, locals := 0 }
set_option maxHeartbeats 4000000 in
set_option maxRecDepth 100000 in
theorem c_X3_renewContact (l : Launch) (E : xE) (B : Nat) {k : Nat} {σ : xM} {q : Unit × xM} (hk_k : kd k = 3) (h : F_X3_renewContact k σ = some q) : Met l yX3_renewContact (Cond.code yX3_renewContact cX3_renewContact 1 none :: AL) rm_X3_renewContact (xP E B 160 (layX E B) [.ref (B + k)] σ) (xQ E B 160 (layX E B) none q.2) 0 0 (wA B 160) := by
  refine x_met (plainFor_of_name (by decide +kernel)) (Nat.le_of_ble_eq_true rfl) rfl ?_
  intro p e s m below meth c ls CX hr hlk hM hl
  have hx := CX.1.1
  have hb := CX.1.2.1
  unfold F_X3_renewContact at h
  refine lv_aload_n hx hb dX3_renewContact_0 rfl (lv_at hl 0 rfl) ?_
  refine lv_iconst (v := 0) hx hb dX3_renewContact_1 (by decide) ?_
  refine p3_11 (y := 0) CX hM hk_k wf_X3_54 dX3_renewContact_2 (fun H locs σ1 eσ1 hM => ?_)
  replace h := nm_h eσ1 h
  refine lv_aload_n hx hb dX3_renewContact_5 rfl (lv_at hl 0 rfl) ?_
  refine lv_iconst (v := 0) hx hb dX3_renewContact_6 (by decide) ?_
  refine p3_12 (y := 0) CX hM hk_k wf_X3_57 dX3_renewContact_7 (fun H locs σ2 eσ2 hM => ?_)
  replace h := nm_h eσ2 h
  refine lv_aload_n hx hb dX3_renewContact_10 rfl (lv_at hl 0 rfl) ?_
  refine lv_iconst (v := 0) hx hb dX3_renewContact_11 (by decide) ?_
  refine p3_9 (y := 0) CX hM hk_k wf_X3_48 dX3_renewContact_12 (fun H locs σ3 eσ3 hM => ?_)
  replace h := nm_h eσ3 h
  refine lv_aload_n hx hb dX3_renewContact_15 rfl (lv_at hl 0 rfl) ?_
  refine lv_iconst (v := 0) hx hb dX3_renewContact_16 (by decide) ?_
  refine p3_8 (y := 0) CX hM hk_k wf_X3_44 dX3_renewContact_17 (fun H locs σ4 eσ4 hM => ?_)
  replace h := nm_h eσ4 h
  obtain rfl := Option.some.inj h
  exact x_vret CX hr hlk hM rfl dX3_renewContact_20
def rm_X3_property : Jvm.Room := { frames := 3, cells := 0, slots := 0, locals := 63 }
set_option maxHeartbeats 4000000 in
set_option maxRecDepth 100000 in
theorem c_X3_property (l : Launch) (E : xE) (B : Nat) {k : Nat} {x1 : Int32} {σ : xM} {q : Int32 × xM} (hk_k : kd k = 3) (h : F_X3_property k x1 σ = some q) : Met l yX3_property (Cond.code yX3_property cX3_property 2 (some .int) :: AL) rm_X3_property (xP E B 160 (layX E B) [.ref (B + k), .int x1] σ) (xQ E B 160 (layX E B) (some (.int q.1)) q.2) 0 0 (wA B 160) := by
  refine x_met (plainFor_of_name (by decide +kernel)) (Nat.le_of_ble_eq_true rfl) rfl ?_
  intro p e s m below meth c ls CX hr hlk hM hl
  have hx := CX.1.1
  have hb := CX.1.2.1
  unfold F_X3_property at h
  refine lv_iload_n hx hb dX3_property_0 rfl (lv_at hl 1 rfl) ?_
  by_cases c1 : x1 = 0
  · replace h := it_h c1 h
    refine lv_tableIn (off := 71) (tgt := 72) hx hb dX3_property_1 (by rw [c1]; decide) (by rw [c1]; decide) (by rw [c1]; decide) (by decide) ?_
    refine lv_aload_n hx hb dX3_property_72 rfl (lv_at hl 0 rfl) ?_
    obtain ⟨q2, eq2, h⟩ := bd_h h
    refine x_callV (As := []) CX hM (kdl hk_k rfl) (ly3 hk_k _) rfl lk_X3_37 (c_X3_temperature l E B hk_k eq2) ⟨rfl, rfl, by decide, by decide⟩ rfl hl.1 rfl (Nat.le_of_ble_eq_true rfl) dX3_property_73 (fun H locs hM => ?_)
    refine W.eq (g2 := F0 m 76 ls [.int q2.1]) rfl ?_
    obtain rfl := Option.some.inj h
    exact x_iret CX hr hlk hM rfl dX3_property_76
  · replace h := if_h c1 h
    by_cases c3 : x1 = 1
    · replace h := it_h c3 h
      refine lv_tableIn (off := 76) (tgt := 77) hx hb dX3_property_1 (by rw [c3]; decide) (by rw [c3]; decide) (by rw [c3]; decide) (by decide) ?_
      refine lv_aload_n hx hb dX3_property_77 rfl (lv_at hl 0 rfl) ?_
      refine g3_4 CX hM hk_k wf_X3_28 dX3_property_78 ?_
      obtain rfl := Option.some.inj h
      exact x_iret CX hr hlk hM rfl dX3_property_81
    · replace h := if_h c3 h
      by_cases c4 : x1 = 2
      · replace h := it_h c4 h
        refine lv_tableIn (off := 81) (tgt := 82) hx hb dX3_property_1 (by rw [c4]; decide) (by rw [c4]; decide) (by rw [c4]; decide) (by decide) ?_
        refine lv_aload_n hx hb dX3_property_82 rfl (lv_at hl 0 rfl) ?_
        refine g3_7 CX hM hk_k wf_X3_41 dX3_property_83 ?_
        obtain rfl := Option.some.inj h
        exact x_iret CX hr hlk hM rfl dX3_property_86
      · replace h := if_h c4 h
        by_cases c5 : x1 = 3
        · replace h := it_h c5 h
          refine lv_tableIn (off := 86) (tgt := 87) hx hb dX3_property_1 (by rw [c5]; decide) (by rw [c5]; decide) (by rw [c5]; decide) (by decide) ?_
          refine lv_aload_n hx hb dX3_property_87 rfl (lv_at hl 0 rfl) ?_
          refine g3_8 CX hM hk_k wf_X3_44 dX3_property_88 ?_
          refine lv_if_eq (tgt := 98) hx hb dX3_property_91 (by decide) (fun c6 => ?_) (fun c6 => ?_)
          · replace h := it_h c6 h
            refine lv_iconst (v := 0) hx hb dX3_property_98 (by decide) ?_
            obtain rfl := Option.some.inj h
            exact x_iret CX hr hlk hM rfl dX3_property_99
          · replace h := if_h c6 h
            refine lv_iconst (v := 1) hx hb dX3_property_94 (by decide) ?_
            refine lv_goto (tgt := 99) hx hb dX3_property_95 (by decide) ?_
            obtain rfl := Option.some.inj h
            exact x_iret CX hr hlk hM rfl dX3_property_99
        · replace h := if_h c5 h
          by_cases c7 : x1 = 4
          · replace h := it_h c7 h
            refine lv_tableIn (off := 99) (tgt := 100) hx hb dX3_property_1 (by rw [c7]; decide) (by rw [c7]; decide) (by rw [c7]; decide) (by decide) ?_
            refine lv_aload_n hx hb dX3_property_100 rfl (lv_at hl 0 rfl) ?_
            refine g3_9 CX hM hk_k wf_X3_48 dX3_property_101 ?_
            refine lv_if_eq (tgt := 111) hx hb dX3_property_104 (by decide) (fun c8 => ?_) (fun c8 => ?_)
            · replace h := it_h c8 h
              refine lv_iconst (v := 0) hx hb dX3_property_111 (by decide) ?_
              obtain rfl := Option.some.inj h
              exact x_iret CX hr hlk hM rfl dX3_property_112
            · replace h := if_h c8 h
              refine lv_iconst (v := 1) hx hb dX3_property_107 (by decide) ?_
              refine lv_goto (tgt := 112) hx hb dX3_property_108 (by decide) ?_
              obtain rfl := Option.some.inj h
              exact x_iret CX hr hlk hM rfl dX3_property_112
          · replace h := if_h c7 h
            by_cases c9 : x1 = 5
            · replace h := it_h c9 h
              refine lv_tableIn (off := 112) (tgt := 113) hx hb dX3_property_1 (by rw [c9]; decide) (by rw [c9]; decide) (by rw [c9]; decide) (by decide) ?_
              refine lv_aload_n hx hb dX3_property_113 rfl (lv_at hl 0 rfl) ?_
              refine g3_11 CX hM hk_k wf_X3_54 dX3_property_114 ?_
              obtain rfl := Option.some.inj h
              exact x_iret CX hr hlk hM rfl dX3_property_117
            · replace h := if_h c9 h
              by_cases c10 : x1 = 6
              · replace h := it_h c10 h
                refine lv_tableIn (off := 117) (tgt := 118) hx hb dX3_property_1 (by rw [c10]; decide) (by rw [c10]; decide) (by rw [c10]; decide) (by decide) ?_
                refine lv_aload_n hx hb dX3_property_118 rfl (lv_at hl 0 rfl) ?_
                refine g3_12 CX hM hk_k wf_X3_57 dX3_property_119 ?_
                obtain rfl := Option.some.inj h
                exact x_iret CX hr hlk hM rfl dX3_property_122
              · replace h := if_h c10 h
                by_cases c11 : x1 = 7
                · replace h := it_h c11 h
                  refine lv_tableIn (off := 122) (tgt := 123) hx hb dX3_property_1 (by rw [c11]; decide) (by rw [c11]; decide) (by rw [c11]; decide) (by decide) ?_
                  refine lv_aload_n hx hb dX3_property_123 rfl (lv_at hl 0 rfl) ?_
                  refine g3_13 CX hM hk_k wf_X3_60 dX3_property_124 ?_
                  obtain rfl := Option.some.inj h
                  exact x_iret CX hr hlk hM rfl dX3_property_127
                · replace h := if_h c11 h
                  by_cases c12 : x1 = 8
                  · replace h := it_h c12 h
                    refine lv_tableIn (off := 127) (tgt := 128) hx hb dX3_property_1 (by rw [c12]; decide) (by rw [c12]; decide) (by rw [c12]; decide) (by decide) ?_
                    refine lv_aload_n hx hb dX3_property_128 rfl (lv_at hl 0 rfl) ?_
                    refine g3_15 CX hM hk_k wf_X3_67 dX3_property_129 ?_
                    obtain rfl := Option.some.inj h
                    exact x_iret CX hr hlk hM rfl dX3_property_132
                  · replace h := if_h c12 h
                    by_cases c13 : x1 = 9
                    · replace h := it_h c13 h
                      refine lv_tableIn (off := 132) (tgt := 133) hx hb dX3_property_1 (by rw [c13]; decide) (by rw [c13]; decide) (by rw [c13]; decide) (by decide) ?_
                      refine lv_aload_n hx hb dX3_property_133 rfl (lv_at hl 0 rfl) ?_
                      refine g3_16 CX hM hk_k wf_X3_70 dX3_property_134 ?_
                      obtain rfl := Option.some.inj h
                      exact x_iret CX hr hlk hM rfl dX3_property_137
                    · replace h := if_h c13 h
                      by_cases c14 : x1 = 10
                      · replace h := it_h c14 h
                        refine lv_tableIn (off := 137) (tgt := 138) hx hb dX3_property_1 (by rw [c14]; decide) (by rw [c14]; decide) (by rw [c14]; decide) (by decide) ?_
                        refine lv_aload_n hx hb dX3_property_138 rfl (lv_at hl 0 rfl) ?_
                        refine g3_10 CX hM hk_k wf_X3_51 dX3_property_139 ?_
                        refine lv_if_eq (tgt := 149) hx hb dX3_property_142 (by decide) (fun c15 => ?_) (fun c15 => ?_)
                        · replace h := it_h c15 h
                          refine lv_iconst (v := 0) hx hb dX3_property_149 (by decide) ?_
                          obtain rfl := Option.some.inj h
                          exact x_iret CX hr hlk hM rfl dX3_property_150
                        · replace h := if_h c15 h
                          refine lv_iconst (v := 1) hx hb dX3_property_145 (by decide) ?_
                          refine lv_goto (tgt := 150) hx hb dX3_property_146 (by decide) ?_
                          obtain rfl := Option.some.inj h
                          exact x_iret CX hr hlk hM rfl dX3_property_150
                      · replace h := if_h c14 h
                        by_cases c16 : x1 = 11
                        · replace h := it_h c16 h
                          refine lv_tableIn (off := 150) (tgt := 151) hx hb dX3_property_1 (by rw [c16]; decide) (by rw [c16]; decide) (by rw [c16]; decide) (by decide) ?_
                          refine lv_aload_n hx hb dX3_property_151 rfl (lv_at hl 0 rfl) ?_
                          refine g3_14 CX hM hk_k wf_X3_64 dX3_property_152 ?_
                          obtain rfl := Option.some.inj h
                          exact x_iret CX hr hlk hM rfl dX3_property_155
                        · replace h := if_h c16 h
                          by_cases c17 : x1 = 12
                          · replace h := it_h c17 h
                            refine lv_tableIn (off := 155) (tgt := 156) hx hb dX3_property_1 (by rw [c17]; decide) (by rw [c17]; decide) (by rw [c17]; decide) (by decide) ?_
                            refine lv_aload_n hx hb dX3_property_156 rfl (lv_at hl 0 rfl) ?_
                            refine g3_5 CX hM hk_k wf_X3_31 dX3_property_157 ?_
                            obtain rfl := Option.some.inj h
                            exact x_iret CX hr hlk hM rfl dX3_property_160
                          · replace h := if_h c17 h
                            by_cases c18 : x1 = 13
                            · replace h := it_h c18 h
                              refine lv_tableIn (off := 160) (tgt := 161) hx hb dX3_property_1 (by rw [c18]; decide) (by rw [c18]; decide) (by rw [c18]; decide) (by decide) ?_
                              refine lv_aload_n hx hb dX3_property_161 rfl (lv_at hl 0 rfl) ?_
                              refine g3_6 CX hM hk_k wf_X3_34 dX3_property_162 ?_
                              obtain rfl := Option.some.inj h
                              exact x_iret CX hr hlk hM rfl dX3_property_165
                            · replace h := if_h c18 h
                              refine lv_tableOut (tgt := 166) hx hb dX3_property_1 (tsw_out [0, 1, 2, 3, 4, 5, 6, 7, 8, 9, 10, 11, 12, 13] (by decide) (by decide) (List.forall_mem_cons.mpr ⟨c1, (List.forall_mem_cons.mpr ⟨c3, (List.forall_mem_cons.mpr ⟨c4, (List.forall_mem_cons.mpr ⟨c5, (List.forall_mem_cons.mpr ⟨c7, (List.forall_mem_cons.mpr ⟨c9, (List.forall_mem_cons.mpr ⟨c10, (List.forall_mem_cons.mpr ⟨c11, (List.forall_mem_cons.mpr ⟨c12, (List.forall_mem_cons.mpr ⟨c13, (List.forall_mem_cons.mpr ⟨c14, (List.forall_mem_cons.mpr ⟨c16, (List.forall_mem_cons.mpr ⟨c17, (List.forall_mem_cons.mpr ⟨c18, (fun _ h => absurd h List.not_mem_nil)⟩)⟩)⟩)⟩)⟩)⟩)⟩)⟩)⟩)⟩)⟩)⟩)⟩)⟩)) (by decide) ?_
                              refine lv_ldc (v := (-1000001)) hx hb CX.1.2.2.2.1 (x_hts CX wc_X3_106) dX3_property_166 ?_
                              obtain rfl := Option.some.inj h
                              exact x_iret CX hr hlk hM rfl dX3_property_168
def rm_X6_within : Jvm.Room := { frames := 0, cells := 0, slots := 0, locals := 0 }
set_option maxHeartbeats 4000000 in
set_option maxRecDepth 100000 in
theorem c_X6_within (l : Launch) (E : xE) (B : Nat) {x0 : Int32} {x1 : Int32} {x2 : Int32} {σ : xM} {q : Int32 × xM}  (h : F_X6_within x0 x1 x2 σ = some q) : Met l yX6_within (Cond.code yX6_within cX6_within 3 (some .boolean) :: AL) rm_X6_within (xP E B 160 (layX E B) [.int x0, .int x1, .int x2] σ) (xQ E B 160 (layX E B) (some (.int (bz q.1))) q.2) 0 0 (wA B 160) := by
  refine x_met (plainFor_of_name (by decide +kernel)) (Nat.le_of_ble_eq_true rfl) rfl ?_
  intro p e s m below meth c ls CX hr hlk hM hl
  have hx := CX.1.1
  have hb := CX.1.2.1
  unfold F_X6_within at h
  refine lv_iload_n hx hb dX6_within_0 rfl (lv_at hl 0 rfl) ?_
  refine lv_iload_n hx hb dX6_within_1 rfl (lv_at hl 1 rfl) ?_
  refine lv_icmp_lt (tgt := 14) hx hb dX6_within_2 (by decide) (fun c1 => ?_) (fun c1 => ?_)
  · replace h := it_h c1 h
    refine lv_iconst (v := 0) hx hb dX6_within_14 (by decide) ?_
    obtain rfl := Option.some.inj h
    exact x_zret (y := 0) CX hr hlk hM rfl rfl dX6_within_15
  · replace h := if_h c1 h
    refine lv_iload_n hx hb dX6_within_5 rfl (lv_at hl 0 rfl) ?_
    refine lv_iload_n hx hb dX6_within_6 rfl (lv_at hl 2 rfl) ?_
    refine lv_icmp_gt (tgt := 14) hx hb dX6_within_7 (by decide) (fun c2 => ?_) (fun c2 => ?_)
    · replace h := it_h c2 h
      refine lv_iconst (v := 0) hx hb dX6_within_14 (by decide) ?_
      obtain rfl := Option.some.inj h
      exact x_zret (y := 0) CX hr hlk hM rfl rfl dX6_within_15
    · replace h := if_h c2 h
      refine lv_iconst (v := 1) hx hb dX6_within_10 (by decide) ?_
      refine lv_goto (tgt := 15) hx hb dX6_within_11 (by decide) ?_
      obtain rfl := Option.some.inj h
      exact x_zret (y := 1) CX hr hlk hM rfl rfl dX6_within_15
def rm_X6_addRoom : Jvm.Room := { frames := 5, cells := 0, slots := 0, locals := 113 }
set_option maxHeartbeats 4000000 in
set_option maxRecDepth 100000 in
theorem c_X6_addRoom (l : Launch) (E : xE) (B : Nat) {k : Nat} {x1 : Int32} {x2 : Int32} {x3 : Int32} {x4 : Int32} {σ : xM} {q : Int32 × xM} (hk_k : kd k = 6) (h : F_X6_addRoom k x1 x2 x3 x4 σ = some q) : Met l yX6_addRoom (Cond.code yX6_addRoom cX6_addRoom 5 (some .int) :: AL) rm_X6_addRoom (xP E B 160 (layX E B) [.ref (B + k), .int x1, .int x2, .int x3, .int x4] σ) (xQ E B 160 (layX E B) (some (.int q.1)) q.2) 0 0 (wA B 160) := by
  refine x_met (plainFor_of_name (by decide +kernel)) (Nat.le_of_ble_eq_true rfl) rfl ?_
  intro p e s m below meth c ls CX hr hlk hM hl
  have hx := CX.1.1
  have hb := CX.1.2.1
  unfold F_X6_addRoom at h
  refine lv_iload_n hx hb dX6_addRoom_0 rfl (lv_at hl 1 rfl) ?_
  refine lv_bipush (v := 10) hx hb dX6_addRoom_1 (by decide) ?_
  refine lv_sipush (v := 500) hx hb dX6_addRoom_3 (by decide) ?_
  obtain ⟨q1, eq1, h⟩ := bd_h h
  refine x_callS (As := [.int x1, .int 10, .int 500]) CX hM lk_X6_40 (c_X6_within l E B  eq1) ⟨rfl, rfl, by decide, by decide⟩ rfl hl.1 rfl (Nat.le_of_ble_eq_true rfl) dX6_addRoom_6 (fun H locs hM => ?_)
  refine W.eq (g2 := F0 m 9 ls [.int (bz q1.1)]) rfl ?_
  refine lv_if_eq (tgt := 52) hx hb dX6_addRoom_9 (by decide) (fun c2 => ?_) (fun c2 => ?_)
  · replace h := it_h c2 h
    refine lv_ldc (v := (-1000001)) hx hb CX.1.2.2.2.1 (x_hts CX wc_X6_44) dX6_addRoom_52 ?_
    obtain rfl := Option.some.inj h
    exact x_iret CX hr hlk hM rfl dX6_addRoom_54
  · replace h := if_h c2 h
    refine lv_iload_n hx hb dX6_addRoom_12 rfl (lv_at hl 2 rfl) ?_
    refine lv_iconst (v := 1) hx hb dX6_addRoom_13 (by decide) ?_
    refine lv_sipush (v := 200) hx hb dX6_addRoom_14 (by decide) ?_
    obtain ⟨q3, eq3, h⟩ := bd_h h
    refine x_callS (As := [.int x2, .int 1, .int 200]) CX hM lk_X6_40 (c_X6_within l E B  eq3) ⟨rfl, rfl, by decide, by decide⟩ rfl hl.1 rfl (Nat.le_of_ble_eq_true rfl) dX6_addRoom_17 (fun H locs hM => ?_)
    refine W.eq (g2 := F0 m 20 ls [.int (bz q3.1)]) rfl ?_
    refine lv_if_eq (tgt := 52) hx hb dX6_addRoom_20 (by decide) (fun c4 => ?_) (fun c4 => ?_)
    · replace h := it_h c4 h
      refine lv_ldc (v := (-1000001)) hx hb CX.1.2.2.2.1 (x_hts CX wc_X6_44) dX6_addRoom_52 ?_
      obtain rfl := Option.some.inj h
      exact x_iret CX hr hlk hM rfl dX6_addRoom_54
    · replace h := if_h c4 h
      refine lv_iload_n hx hb dX6_addRoom_23 rfl (lv_at hl 3 rfl) ?_
      refine lv_iconst (v := 0) hx hb dX6_addRoom_24 (by decide) ?_
      refine lv_bipush (v := 50) hx hb dX6_addRoom_25 (by decide) ?_
      obtain ⟨q5, eq5, h⟩ := bd_h h
      refine x_callS (As := [.int x3, .int 0, .int 50]) CX hM lk_X6_40 (c_X6_within l E B  eq5) ⟨rfl, rfl, by decide, by decide⟩ rfl hl.1 rfl (Nat.le_of_ble_eq_true rfl) dX6_addRoom_27 (fun H locs hM => ?_)
      refine W.eq (g2 := F0 m 30 ls [.int (bz q5.1)]) rfl ?_
      refine lv_if_eq (tgt := 52) hx hb dX6_addRoom_30 (by decide) (fun c6 => ?_) (fun c6 => ?_)
      · replace h := it_h c6 h
        refine lv_ldc (v := (-1000001)) hx hb CX.1.2.2.2.1 (x_hts CX wc_X6_44) dX6_addRoom_52 ?_
        obtain rfl := Option.some.inj h
        exact x_iret CX hr hlk hM rfl dX6_addRoom_54
      · replace h := if_h c6 h
        refine lv_iload_n hx hb dX6_addRoom_33 rfl (lv_at hl 3 rfl) ?_
        refine lv_iload_n hx hb dX6_addRoom_34 rfl (lv_at hl 1 rfl) ?_
        refine lv_iconst (v := 2) hx hb dX6_addRoom_35 (by decide) ?_
        refine lv_idiv hx hb dX6_addRoom_36 (by decide) ?_
        refine lv_icmp_gt (tgt := 52) hx hb dX6_addRoom_37 (by decide) (fun c7 => ?_) (fun c7 => ?_)
        · replace h := it_h c7 h
          refine lv_ldc (v := (-1000001)) hx hb CX.1.2.2.2.1 (x_hts CX wc_X6_44) dX6_addRoom_52 ?_
          obtain rfl := Option.some.inj h
          exact x_iret CX hr hlk hM rfl dX6_addRoom_54
        · replace h := if_h c7 h
          refine lv_iload hx hb dX6_addRoom_40 (lv_at hl 4 rfl) ?_
          refine lv_bipush (v := (-40)) hx hb dX6_addRoom_42 (by decide) ?_
          refine lv_bipush (v := 40) hx hb dX6_addRoom_44 (by decide) ?_
          obtain ⟨q8, eq8, h⟩ := bd_h h
          refine x_callS (As := [.int x4, .int (-40), .int 40]) CX hM lk_X6_40 (c_X6_within l E B  eq8) ⟨rfl, rfl, by decide, by decide⟩ rfl hl.1 rfl (Nat.le_of_ble_eq_true rfl) dX6_addRoom_46 (fun H locs hM => ?_)
          refine W.eq (g2 := F0 m 49 ls [.int (bz q8.1)]) rfl ?_
          refine lv_if_ne (tgt := 55) hx hb dX6_addRoom_49 (by decide) (fun c9 => ?_) (fun c9 => ?_)
          · replace h := if_h c9 h
            refine lv_aload_n hx hb dX6_addRoom_55 rfl (lv_at hl 0 rfl) ?_
            refine g6_0 CX hM hk_k wf_X6_10 dX6_addRoom_56 ?_
            refine g1_4 CX hM (kd6_f hk_k).1 wf_X6_45 dX6_addRoom_59 ?_
            refine lv_bipush (v := 6) hx hb dX6_addRoom_62 (by decide) ?_
            refine lv_icmp_lt (tgt := 70) hx hb dX6_addRoom_64 (by decide) (fun c10 => ?_) (fun c10 => ?_)
            · replace h := it_h c10 h
              refine lv_aload_n hx hb dX6_addRoom_70 rfl (lv_at hl 0 rfl) ?_
              refine g6_2 CX hM hk_k wf_X6_22 dX6_addRoom_71 ?_
              refine lv_aload_n hx hb dX6_addRoom_74 rfl (lv_at hl 0 rfl) ?_
              refine g6_0 CX hM hk_k wf_X6_10 dX6_addRoom_75 ?_
              obtain ⟨q11, eq11, h⟩ := bd_h h
              refine x_callV (As := [.ref (B + (k + 1))]) CX hM (kdl (kd6_f hk_k).2.2.1 rfl) (ly2 (kd6_f hk_k).2.2.1 _) rfl lk_X6_50 (c_X2_save l E B ((kd6_f hk_k).2.2.1) ((kd6_f hk_k).1) eq11) ⟨rfl, rfl, by decide, by decide⟩ rfl hl.1 rfl (Nat.le_of_ble_eq_true rfl) dX6_addRoom_78 (fun H locs hM => ?_)
              refine W.eq (g2 := F0 m 81 ls []) rfl ?_
              refine lv_aload_n hx hb dX6_addRoom_81 rfl (lv_at hl 0 rfl) ?_
              refine g6_0 CX hM hk_k wf_X6_10 dX6_addRoom_82 ?_
              refine lv_iload_n hx hb dX6_addRoom_85 rfl (lv_at hl 1 rfl) ?_
              refine lv_iload_n hx hb dX6_addRoom_86 rfl (lv_at hl 2 rfl) ?_
              refine lv_iload_n hx hb dX6_addRoom_87 rfl (lv_at hl 3 rfl) ?_
              refine lv_iload hx hb dX6_addRoom_88 (lv_at hl 4 rfl) ?_
              obtain ⟨q12, eq12, h⟩ := bd_h h
              refine x_callV (As := [.int x1, .int x2, .int x3, .int x4]) CX hM (kdl (kd6_f hk_k).1 rfl) (ly1 (kd6_f hk_k).1 _) rfl lk_X6_54 (c_X1_beginRoom l E B ((kd6_f hk_k).1) eq12) ⟨rfl, rfl, by decide, by decide⟩ rfl hl.1 rfl (Nat.le_of_ble_eq_true rfl) dX6_addRoom_90 (fun H locs hM => ?_)
              refine W.eq (g2 := F0 m 93 ls [.int q12.1]) rfl ?_
              obtain rfl := Option.some.inj h
              exact x_iret CX hr hlk hM rfl dX6_addRoom_93
            · replace h := if_h c10 h
              refine lv_ldc (v := (-1000003)) hx hb CX.1.2.2.2.1 (x_hts CX wc_X6_49) dX6_addRoom_67 ?_
              obtain rfl := Option.some.inj h
              exact x_iret CX hr hlk hM rfl dX6_addRoom_69
          · replace h := it_h c9 h
            refine lv_ldc (v := (-1000001)) hx hb CX.1.2.2.2.1 (x_hts CX wc_X6_44) dX6_addRoom_52 ?_
            obtain rfl := Option.some.inj h
            exact x_iret CX hr hlk hM rfl dX6_addRoom_54
def rm_X6_setLink : Jvm.Room := { frames := 4, cells := 0, slots := 0, locals := 93 }
set_option maxHeartbeats 4000000 in
set_option maxRecDepth 100000 in
theorem c_X6_setLink (l : Launch) (E : xE) (B : Nat) {k : Nat} {x1 : Int32} {x2 : Int32} {x3 : Int32} {σ : xM} {q : Int32 × xM} (hk_k : kd k = 6) (h : F_X6_setLink k x1 x2 x3 σ = some q) : Met l yX6_setLink (Cond.code yX6_setLink cX6_setLink 6 (some .int) :: AL) rm_X6_setLink (xP E B 160 (layX E B) [.ref (B + k), .int x1, .int x2, .int x3] σ) (xQ E B 160 (layX E B) (some (.int q.1)) q.2) 0 0 (wA B 160) := by
  refine x_met (plainFor_of_name (by decide +kernel)) (Nat.le_of_ble_eq_true rfl) rfl ?_
  intro p e s m below meth c ls CX hr hlk hM hl
  have hx := CX.1.1
  have hb := CX.1.2.1
  unfold F_X6_setLink at h
  refine lv_aload_n hx hb dX6_setLink_0 rfl (lv_at hl 0 rfl) ?_
  refine g6_0 CX hM hk_k wf_X6_10 dX6_setLink_1 ?_
  refine lv_iload_n hx hb dX6_setLink_4 rfl (lv_at hl 1 rfl) ?_
  refine lv_iload_n hx hb dX6_setLink_5 rfl (lv_at hl 2 rfl) ?_
  obtain ⟨q1, eq1, h⟩ := bd_h h
  refine x_callV (As := [.int x1, .int x2]) CX hM (kdl (kd6_f hk_k).1 rfl) (ly1 (kd6_f hk_k).1 _) rfl lk_X6_58 (c_X1_hasPair l E B ((kd6_f hk_k).1) eq1) ⟨rfl, rfl, by decide, by decide⟩ rfl hl.1 rfl (Nat.le_of_ble_eq_true rfl) dX6_setLink_6 (fun H locs hM => ?_)
  refine W.eq (g2 := F0 m 9 ls [.int (bz q1.1)]) rfl ?_
  refine lv_if_eq (tgt := 22) hx hb dX6_setLink_9 (by decide) (fun c2 => ?_) (fun c2 => ?_)
  · replace h := it_h c2 h
    refine lv_ldc (v := (-1000001)) hx hb CX.1.2.2.2.1 (x_hts CX wc_X6_44) dX6_setLink_22 ?_
    obtain rfl := Option.some.inj h
    exact x_iret CX hr hlk hM rfl dX6_setLink_24
  · replace h := if_h c2 h
    refine lv_iload_n hx hb dX6_setLink_12 rfl (lv_at hl 3 rfl) ?_
    refine lv_iconst (v := 0) hx hb dX6_setLink_13 (by decide) ?_
    refine lv_bipush (v := 50) hx hb dX6_setLink_14 (by decide) ?_
    obtain ⟨q3, eq3, h⟩ := bd_h h
    refine x_callS (As := [.int x3, .int 0, .int 50]) CX hM lk_X6_40 (c_X6_within l E B  eq3) ⟨rfl, rfl, by decide, by decide⟩ rfl hl.1 rfl (Nat.le_of_ble_eq_true rfl) dX6_setLink_16 (fun H locs hM => ?_)
    refine W.eq (g2 := F0 m 19 ls [.int (bz q3.1)]) rfl ?_
    refine lv_if_ne (tgt := 25) hx hb dX6_setLink_19 (by decide) (fun c4 => ?_) (fun c4 => ?_)
    · replace h := if_h c4 h
      refine lv_aload_n hx hb dX6_setLink_25 rfl (lv_at hl 0 rfl) ?_
      refine g6_0 CX hM hk_k wf_X6_10 dX6_setLink_26 ?_
      refine lv_iload_n hx hb dX6_setLink_29 rfl (lv_at hl 1 rfl) ?_
      refine lv_iload_n hx hb dX6_setLink_30 rfl (lv_at hl 2 rfl) ?_
      obtain ⟨q5, eq5, h⟩ := bd_h h
      refine x_callV (As := [.int x1, .int x2]) CX hM (kdl (kd6_f hk_k).1 rfl) (ly1 (kd6_f hk_k).1 _) rfl lk_X6_62 (c_X1_linkOf l E B ((kd6_f hk_k).1) eq5) ⟨rfl, rfl, by decide, by decide⟩ rfl hl.1 rfl (Nat.le_of_ble_eq_true rfl) dX6_setLink_31 (fun H locs hM => ?_)
      refine W.eq (g2 := F0 m 34 ls [.int q5.1]) rfl ?_
      refine lv_istore (lv' := [(4, .int q5.1), (0, .ref (B + k)), (1, .int x1), (2, .int x2), (3, .int x3)]) hx hb dX6_setLink_34 hl (by decide) rfl (fun ls hl => ?_)
      refine lv_iload_n hx hb dX6_setLink_36 rfl (lv_at hl 4 rfl) ?_
      refine lv_iload hx hb dX6_setLink_37 (lv_at hl 0 rfl) ?_
      refine lv_isub hx hb dX6_setLink_39 ?_
      refine lv_topi (fun x5_6 ex5_6 => ?_)
      replace h := nm_h ex5_6 h
      refine lv_istore (lv' := [(5, .int x5_6), (4, .int q5.1), (0, .ref (B + k)), (1, .int x1), (2, .int x2), (3, .int x3)]) hx hb dX6_setLink_40 hl (by decide) rfl (fun ls hl => ?_)
      refine lv_aload_n hx hb dX6_setLink_42 rfl (lv_at hl 2 rfl) ?_
      refine g6_0 CX hM hk_k wf_X6_10 dX6_setLink_43 ?_
      refine lv_iload_n hx hb dX6_setLink_46 rfl (lv_at hl 3 rfl) ?_
      refine lv_iload hx hb dX6_setLink_47 (lv_at hl 0 rfl) ?_
      obtain ⟨q7, eq7, h⟩ := bd_h h
      refine x_callV (As := [.int x1, .int x5_6]) CX hM (kdl (kd6_f hk_k).1 rfl) (ly1 (kd6_f hk_k).1 _) rfl lk_X6_66 (c_X1_canCarry l E B ((kd6_f hk_k).1) eq7) ⟨rfl, rfl, by decide, by decide⟩ rfl hl.1 rfl (Nat.le_of_ble_eq_true rfl) dX6_setLink_49 (fun H locs hM => ?_)
      refine W.eq (g2 := F0 m 52 ls [.int (bz q7.1)]) rfl ?_
      refine lv_if_eq (tgt := 68) hx hb dX6_setLink_52 (by decide) (fun c8 => ?_) (fun c8 => ?_)
      · replace h := it_h c8 h
        refine lv_ldc (v := (-1000002)) hx hb CX.1.2.2.2.1 (x_hts CX wc_X6_69) dX6_setLink_68 ?_
        obtain rfl := Option.some.inj h
        exact x_iret CX hr hlk hM rfl dX6_setLink_70
      · replace h := if_h c8 h
        refine lv_aload_n hx hb dX6_setLink_55 rfl (lv_at hl 2 rfl) ?_
        refine g6_0 CX hM hk_k wf_X6_10 dX6_setLink_56 ?_
        refine lv_iload_n hx hb dX6_setLink_59 rfl (lv_at hl 4 rfl) ?_
        refine lv_iload hx hb dX6_setLink_60 (lv_at hl 0 rfl) ?_
        obtain ⟨q9, eq9, h⟩ := bd_h h
        refine x_callV (As := [.int x2, .int x5_6]) CX hM (kdl (kd6_f hk_k).1 rfl) (ly1 (kd6_f hk_k).1 _) rfl lk_X6_66 (c_X1_canCarry l E B ((kd6_f hk_k).1) eq9) ⟨rfl, rfl, by decide, by decide⟩ rfl hl.1 rfl (Nat.le_of_ble_eq_true rfl) dX6_setLink_62 (fun H locs hM => ?_)
        refine W.eq (g2 := F0 m 65 ls [.int (bz q9.1)]) rfl ?_
        refine lv_if_ne (tgt := 71) hx hb dX6_setLink_65 (by decide) (fun c10 => ?_) (fun c10 => ?_)
        · replace h := if_h c10 h
          refine lv_aload_n hx hb dX6_setLink_71 rfl (lv_at hl 2 rfl) ?_
          refine g6_2 CX hM hk_k wf_X6_22 dX6_setLink_72 ?_
          refine lv_aload_n hx hb dX6_setLink_75 rfl (lv_at hl 2 rfl) ?_
          refine g6_0 CX hM hk_k wf_X6_10 dX6_setLink_76 ?_
          obtain ⟨q11, eq11, h⟩ := bd_h h
          refine x_callV (As := [.ref (B + (k + 1))]) CX hM (kdl (kd6_f hk_k).2.2.1 rfl) (ly2 (kd6_f hk_k).2.2.1 _) rfl lk_X6_50 (c_X2_save l E B ((kd6_f hk_k).2.2.1) ((kd6_f hk_k).1) eq11) ⟨rfl, rfl, by decide, by decide⟩ rfl hl.1 rfl (Nat.le_of_ble_eq_true rfl) dX6_setLink_79 (fun H locs hM => ?_)
          refine W.eq (g2 := F0 m 82 ls []) rfl ?_
          refine lv_aload_n hx hb dX6_setLink_82 rfl (lv_at hl 2 rfl) ?_
          refine g6_0 CX hM hk_k wf_X6_10 dX6_setLink_83 ?_
          refine lv_iload_n hx hb dX6_setLink_86 rfl (lv_at hl 3 rfl) ?_
          refine lv_iload_n hx hb dX6_setLink_87 rfl (lv_at hl 4 rfl) ?_
          refine lv_iload_n hx hb dX6_setLink_88 rfl (lv_at hl 5 rfl) ?_
          obtain ⟨q12, eq12, h⟩ := bd_h h
          refine x_callV (As := [.int x1, .int x2, .int x3]) CX hM (kdl (kd6_f hk_k).1 rfl) (ly1 (kd6_f hk_k).1 _) rfl lk_X6_70 (c_X1_putLink l E B ((kd6_f hk_k).1) eq12) ⟨rfl, rfl, by decide, by decide⟩ rfl hl.1 rfl (Nat.le_of_ble_eq_true rfl) dX6_setLink_89 (fun H locs hM => ?_)
          refine W.eq (g2 := F0 m 92 ls []) rfl ?_
          refine lv_iload hx hb dX6_setLink_92 (lv_at hl 1 rfl) ?_
          obtain rfl := Option.some.inj h
          exact x_iret CX hr hlk hM rfl dX6_setLink_94
        · replace h := it_h c10 h
          refine lv_ldc (v := (-1000002)) hx hb CX.1.2.2.2.1 (x_hts CX wc_X6_69) dX6_setLink_68 ?_
          obtain rfl := Option.some.inj h
          exact x_iret CX hr hlk hM rfl dX6_setLink_70
    · replace h := it_h c4 h
      refine lv_ldc (v := (-1000001)) hx hb CX.1.2.2.2.1 (x_hts CX wc_X6_44) dX6_setLink_22 ?_
      obtain rfl := Option.some.inj h
      exact x_iret CX hr hlk hM rfl dX6_setLink_24
def rm_X6_setThermostat : Jvm.Room := { frames := 4, cells := 0, slots := 0, locals := 93 }
set_option maxHeartbeats 4000000 in
set_option maxRecDepth 100000 in
theorem c_X6_setThermostat (l : Launch) (E : xE) (B : Nat) {k : Nat} {x1 : Int32} {x2 : Int32} {x3 : Int32} {σ : xM} {q : Int32 × xM} (hk_k : kd k = 6) (h : F_X6_setThermostat k x1 x2 x3 σ = some q) : Met l yX6_setThermostat (Cond.code yX6_setThermostat cX6_setThermostat 6 (some .int) :: AL) rm_X6_setThermostat (xP E B 160 (layX E B) [.ref (B + k), .int x1, .int x2, .int x3] σ) (xQ E B 160 (layX E B) (some (.int q.1)) q.2) 0 0 (wA B 160) := by
  refine x_met (plainFor_of_name (by decide +kernel)) (Nat.le_of_ble_eq_true rfl) rfl ?_
  intro p e s m below meth c ls CX hr hlk hM hl
  have hx := CX.1.1
  have hb := CX.1.2.1
  unfold F_X6_setThermostat at h
  have J76 : ∀ (v2 : Int32) (v3 : Int32) (u4 : Nat) (y0 : Int32) (σ : xM), kd u4 = 3 → ∀ (H : Heap) (locs : List Loc) (ls : Array Slot), xS E B 160 (layX E B) s σ H locs → lv_has ls 6 [(2, .int v2), (3, .int v3), (4, .ref (B + u4))] → F_X6_setThermostat_J76  v2 v3 u4 y0 σ = some q → W p l e rm_X6_setThermostat s m ([.ref (B + k), .int x1, .int x2, .int x3] : List Value).toArray below meth c H locs 0 0 (MQ below (xQ E B 160 (layX E B) (some (.int q.1)) q.2) ([.ref (B + k), .int x1, .int x2, .int x3] : List Value).toArray s 0 0 (wA B 160)) (F0 m 76 ls [.int y0]) := by
    clear hM hl h
    intro v2 v3 u4 y0 σ hk_u4 H locs ls hM hl h
    unfold F_X6_setThermostat_J76 at h
    refine lv_istore (lv' := [(5, .int y0), (2, .int v2), (3, .int v3), (4, .ref (B + u4))]) hx hb dX6_setThermostat_76 hl (by decide) rfl (fun ls hl => ?_)
    refine lv_aload hx hb dX6_setThermostat_78 (lv_at hl 3 rfl) ?_
    refine lv_iload_n hx hb dX6_setThermostat_80 rfl (lv_at hl 1 rfl) ?_
    refine p3_5 (y := v2) CX hM hk_u4 wf_X6_79 dX6_setThermostat_81 (fun H locs σ9 eσ9 hM => ?_)
    replace h := nm_h eσ9 h
    refine lv_aload hx hb dX6_setThermostat_84 (lv_at hl 3 rfl) ?_
    refine lv_iload_n hx hb dX6_setThermostat_86 rfl (lv_at hl 2 rfl) ?_
    refine p3_6 (y := v3) CX hM hk_u4 wf_X6_84 dX6_setThermostat_87 (fun H locs σ10 eσ10 hM => ?_)
    replace h := nm_h eσ10 h
    refine lv_iload hx hb dX6_setThermostat_90 (lv_at hl 0 rfl) ?_
    refine lv_if_eq (tgt := 99) hx hb dX6_setThermostat_92 (by decide) (fun c11 => ?_) (fun c11 => ?_)
    · replace h := it_h c11 h
      refine lv_iconst (v := 1) hx hb dX6_setThermostat_99 (by decide) ?_
      obtain rfl := Option.some.inj h
      exact x_iret CX hr hlk hM rfl dX6_setThermostat_100
    · replace h := if_h c11 h
      refine lv_iconst (v := 0) hx hb dX6_setThermostat_95 (by decide) ?_
      refine lv_goto (tgt := 100) hx hb dX6_setThermostat_96 (by decide) ?_
      obtain rfl := Option.some.inj h
      exact x_iret CX hr hlk hM rfl dX6_setThermostat_100
  have J75 : ∀ (v2 : Int32) (v3 : Int32) (u4 : Nat) (σ : xM), kd u4 = 3 → ∀ (H : Heap) (locs : List Loc) (ls : Array Slot), xS E B 160 (layX E B) s σ H locs → lv_has ls 6 [(2, .int v2), (3, .int v3), (4, .ref (B + u4))] → F_X6_setThermostat_J75  v2 v3 u4 σ = some q → W p l e rm_X6_setThermostat s m ([.ref (B + k), .int x1, .int x2, .int x3] : List Value).toArray below meth c H locs 0 0 (MQ below (xQ E B 160 (layX E B) (some (.int q.1)) q.2) ([.ref (B + k), .int x1, .int x2, .int x3] : List Value).toArray s 0 0 (wA B 160)) (F0 m 75 ls []) := by
    clear hM hl h
    intro v2 v3 u4 σ hk_u4 H locs ls hM hl h
    unfold F_X6_setThermostat_J75 at h
    refine lv_iconst (v := 0) hx hb dX6_setThermostat_75 (by decide) ?_
    exact J76 _ _ _ _ _ hk_u4 _ _ _ hM (lv_sub hl [0, 1, 2] rfl) h
  refine lv_aload_n hx hb dX6_setThermostat_0 rfl (lv_at hl 0 rfl) ?_
  refine g6_0 CX hM hk_k wf_X6_10 dX6_setThermostat_1 ?_
  refine lv_iload_n hx hb dX6_setThermostat_4 rfl (lv_at hl 1 rfl) ?_
  obtain ⟨q1, eq1, h⟩ := bd_h h
  refine x_callV (As := [.int x1]) CX hM (kdl (kd6_f hk_k).1 rfl) (ly1 (kd6_f hk_k).1 _) rfl lk_X6_74 (c_X1_roomAt l E B ((kd6_f hk_k).1) eq1) ⟨rfl, rfl, by decide, by decide⟩ rfl hl.1 rfl (Nat.le_of_ble_eq_true rfl) dX6_setThermostat_5 (fun H locs hM => ?_)
  rcases hq1 : q1.1 with _ | r2
  · rw [hq1] at h
    replace h := oc_n h
    refine W.eq (g2 := F0 m 8 ls [.null]) rfl ?_
    refine lv_astoreN (lv' := [(4, .null), (0, .ref (B + k)), (1, .int x1), (2, .int x2), (3, .int x3)]) hx hb dX6_setThermostat_8 hl (by decide) rfl (fun ls hl => ?_)
    refine lv_aloadN hx hb dX6_setThermostat_10 (lv_at hl 0 rfl) ?_
    refine lv_ifnullN (tgt := 39) hx hb dX6_setThermostat_12 (by decide) ?_
    refine lv_ldc (v := (-1000001)) hx hb CX.1.2.2.2.1 (x_hts CX wc_X6_44) dX6_setThermostat_39 ?_
    obtain rfl := Option.some.inj h
    exact x_iret CX hr hlk hM rfl dX6_setThermostat_41
  · rw [hq1] at h
    replace h := oc_s h
    obtain ⟨hk_r2, h⟩ := ck_h h
    refine W.eq (g2 := F0 m 8 ls [.ref (B + r2)]) rfl ?_
    refine lv_astore (lv' := [(4, .ref (B + r2)), (0, .ref (B + k)), (1, .int x1), (2, .int x2), (3, .int x3)]) hx hb dX6_setThermostat_8 hl (by decide) rfl (fun ls hl => ?_)
    refine lv_aload hx hb dX6_setThermostat_10 (lv_at hl 0 rfl) ?_
    refine lv_ifnull hx hb dX6_setThermostat_12 ?_
    refine lv_iload_n hx hb dX6_setThermostat_15 rfl (lv_at hl 3 rfl) ?_
    refine lv_sipush (v := 5000) hx hb dX6_setThermostat_16 (by decide) ?_
    refine lv_ldc (v := 35000) hx hb CX.1.2.2.2.1 (x_hts CX wc_X6_78) dX6_setThermostat_19 ?_
    obtain ⟨q3, eq3, h⟩ := bd_h h
    refine x_callS (As := [.int x2, .int 5000, .int 35000]) CX hM lk_X6_40 (c_X6_within l E B  eq3) ⟨rfl, rfl, by decide, by decide⟩ rfl hl.1 rfl (Nat.le_of_ble_eq_true rfl) dX6_setThermostat_21 (fun H locs hM => ?_)
    refine W.eq (g2 := F0 m 24 ls [.int (bz q3.1)]) rfl ?_
    refine lv_if_eq (tgt := 39) hx hb dX6_setThermostat_24 (by decide) (fun c4 => ?_) (fun c4 => ?_)
    · replace h := it_h c4 h
      refine lv_ldc (v := (-1000001)) hx hb CX.1.2.2.2.1 (x_hts CX wc_X6_44) dX6_setThermostat_39 ?_
      obtain rfl := Option.some.inj h
      exact x_iret CX hr hlk hM rfl dX6_setThermostat_41
    · replace h := if_h c4 h
      refine lv_iload_n hx hb dX6_setThermostat_27 rfl (lv_at hl 4 rfl) ?_
      refine lv_bipush (v := 100) hx hb dX6_setThermostat_28 (by decide) ?_
      refine lv_sipush (v := 5000) hx hb dX6_setThermostat_30 (by decide) ?_
      obtain ⟨q5, eq5, h⟩ := bd_h h
      refine x_callS (As := [.int x3, .int 100, .int 5000]) CX hM lk_X6_40 (c_X6_within l E B  eq5) ⟨rfl, rfl, by decide, by decide⟩ rfl hl.1 rfl (Nat.le_of_ble_eq_true rfl) dX6_setThermostat_33 (fun H locs hM => ?_)
      refine W.eq (g2 := F0 m 36 ls [.int (bz q5.1)]) rfl ?_
      refine lv_if_ne (tgt := 42) hx hb dX6_setThermostat_36 (by decide) (fun c6 => ?_) (fun c6 => ?_)
      · replace h := if_h c6 h
        refine lv_aload_n hx hb dX6_setThermostat_42 rfl (lv_at hl 1 rfl) ?_
        refine g6_2 CX hM hk_k wf_X6_22 dX6_setThermostat_43 ?_
        refine lv_aload_n hx hb dX6_setThermostat_46 rfl (lv_at hl 1 rfl) ?_
        refine g6_0 CX hM hk_k wf_X6_10 dX6_setThermostat_47 ?_
        obtain ⟨q7, eq7, h⟩ := bd_h h
        refine x_callV (As := [.ref (B + (k + 1))]) CX hM (kdl (kd6_f hk_k).2.2.1 rfl) (ly2 (kd6_f hk_k).2.2.1 _) rfl lk_X6_50 (c_X2_save l E B ((kd6_f hk_k).2.2.1) ((kd6_f hk_k).1) eq7) ⟨rfl, rfl, by decide, by decide⟩ rfl hl.1 rfl (Nat.le_of_ble_eq_true rfl) dX6_setThermostat_50 (fun H locs hM => ?_)
        refine W.eq (g2 := F0 m 53 ls []) rfl ?_
        refine lv_aload hx hb dX6_setThermostat_53 (lv_at hl 0 rfl) ?_
        refine g3_5 CX hM hk_r2 wf_X6_79 dX6_setThermostat_55 ?_
        refine lv_iload_n hx hb dX6_setThermostat_58 rfl (lv_at hl 3 rfl) ?_
        refine lv_icmp_ne (tgt := 75) hx hb dX6_setThermostat_59 (by decide) (fun c8 => ?_) (fun c8 => ?_)
        · replace h := if_h c8 h
          exact J75 _ _ _ _ hk_r2 _ _ _ hM (lv_sub hl [3, 4, 0] rfl) h
        · replace h := it_h c8 h
          refine lv_aload hx hb dX6_setThermostat_62 (lv_at hl 0 rfl) ?_
          refine g3_6 CX hM hk_r2 wf_X6_84 dX6_setThermostat_64 ?_
          refine lv_iload_n hx hb dX6_setThermostat_67 rfl (lv_at hl 4 rfl) ?_
          refine lv_icmp_ne (tgt := 75) hx hb dX6_setThermostat_68 (by decide) (fun c12 => ?_) (fun c12 => ?_)
          · replace h := if_h c12 h
            exact J75 _ _ _ _ hk_r2 _ _ _ hM (lv_sub hl [3, 4, 0] rfl) h
          · replace h := it_h c12 h
            refine lv_iconst (v := 1) hx hb dX6_setThermostat_71 (by decide) ?_
            refine lv_goto (tgt := 76) hx hb dX6_setThermostat_72 (by decide) ?_
            exact J76 _ _ _ _ _ hk_r2 _ _ _ hM (lv_sub hl [3, 4, 0] rfl) h
      · replace h := it_h c6 h
        refine lv_ldc (v := (-1000001)) hx hb CX.1.2.2.2.1 (x_hts CX wc_X6_44) dX6_setThermostat_39 ?_
        obtain rfl := Option.some.inj h
        exact x_iret CX hr hlk hM rfl dX6_setThermostat_41
