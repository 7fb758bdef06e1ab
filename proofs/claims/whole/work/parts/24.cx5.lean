def rm_X2_restore : Jvm.Room := { frames := 3, cells := 0, slots := 0, locals := 71 }
set_option maxHeartbeats 4000000 in
set_option maxRecDepth 100000 in
theorem c_X2_restore (l : Launch) (E : xE) (B : Nat) {k : Nat} {r1 : Nat} {σ : xM} {q : Unit × xM} (hk_k : kd k = 2) (hk_r1 : kd r1 = 1) (h : F_X2_restore k r1 σ = some q) : Met l yX2_restore (Cond.code yX2_restore cX2_restore 4 none :: AL) rm_X2_restore (xP E B 160 (layX E B) [.ref (B + k), .ref (B + r1)] σ) (xQ E B 160 (layX E B) none q.2) 0 0 (wA B 160) := by
  refine x_met (plainFor_of_name (by decide +kernel)) (Nat.le_of_ble_eq_true rfl) rfl ?_
  intro p e s m below meth c ls CX hr hlk hM hl
  have hx := CX.1.1
  have hb := CX.1.2.1
  unfold F_X2_restore at h
  refine lv_aload_n hx hb dX2_restore_0 rfl (lv_at hl 0 rfl) ?_
  refine g2_1 CX hM hk_k wf_X2_18 dX2_restore_1 ?_
  refine lv_bipush (v := 6) hx hb dX2_restore_4 (by decide) ?_
  refine lv_iadd hx hb dX2_restore_6 ?_
  refine lv_iconst (v := 1) hx hb dX2_restore_7 (by decide) ?_
  refine lv_isub hx hb dX2_restore_8 ?_
  refine lv_bipush (v := 6) hx hb dX2_restore_9 (by decide) ?_
  refine lv_irem hx hb dX2_restore_11 (by decide) ?_
  refine lv_topi (fun x2_1 ex2_1 => ?_)
  replace h := nm_h ex2_1 h
  refine lv_istore_n (lv' := [(2, .int x2_1), (0, .ref (B + k)), (1, .ref (B + r1))]) hx hb dX2_restore_12 rfl hl (by decide) rfl (fun ls hl => ?_)
  refine lv_aload_n hx hb dX2_restore_13 rfl (lv_at hl 1 rfl) ?_
  refine lv_iload_n hx hb dX2_restore_14 rfl (lv_at hl 0 rfl) ?_
  obtain ⟨q2, eq2, h⟩ := bd_h h
  refine x_callV (As := [.int x2_1]) CX hM (kdl hk_k rfl) (ly2 hk_k _) rfl lk_X2_22 (c_X2_stateAt l E B hk_k eq2) ⟨rfl, rfl, by decide, by decide⟩ rfl hl.1 rfl (Nat.le_of_ble_eq_true rfl) dX2_restore_15 (fun H locs hM => ?_)
  rcases hq2 : q2.1 with _ | r3
  · rw [hq2] at h
    replace h := oc_n h
    refine W.eq (g2 := F0 m 18 ls [.null]) rfl ?_
    refine lv_astore_nN (lv' := [(3, .null), (2, .int x2_1), (0, .ref (B + k)), (1, .ref (B + r1))]) hx hb dX2_restore_18 rfl hl (by decide) rfl (fun ls hl => ?_)
    refine lv_aload_nN hx hb dX2_restore_19 rfl (lv_at hl 0 rfl) ?_
    refine lv_ifnullN (tgt := 50) hx hb dX2_restore_20 (by decide) ?_
    obtain rfl := Option.some.inj h
    exact x_vret CX hr hlk hM rfl dX2_restore_50
  · rw [hq2] at h
    replace h := oc_s h
    obtain ⟨hk_r3, h⟩ := ck_h h
    refine W.eq (g2 := F0 m 18 ls [.ref (B + r3)]) rfl ?_
    refine lv_astore_n (lv' := [(3, .ref (B + r3)), (2, .int x2_1), (0, .ref (B + k)), (1, .ref (B + r1))]) hx hb dX2_restore_18 rfl hl (by decide) rfl (fun ls hl => ?_)
    refine lv_aload_n hx hb dX2_restore_19 rfl (lv_at hl 0 rfl) ?_
    refine lv_ifnull hx hb dX2_restore_20 ?_
    refine lv_aload_n hx hb dX2_restore_23 rfl (lv_at hl 2 rfl) ?_
    refine g2_2 CX hM hk_k wf_X2_30 dX2_restore_24 ?_
    refine lv_if_le (tgt := 50) hx hb dX2_restore_27 (by decide) (fun c4 => ?_) (fun c4 => ?_)
    · replace h := it_h c4 h
      obtain rfl := Option.some.inj h
      exact x_vret CX hr hlk hM rfl dX2_restore_50
    · replace h := if_h c4 h
      refine lv_aload_n hx hb dX2_restore_30 rfl (lv_at hl 3 rfl) ?_
      refine lv_aload_n hx hb dX2_restore_31 rfl (lv_at hl 0 rfl) ?_
      obtain ⟨q5, eq5, h⟩ := bd_h h
      refine x_callV (As := [.ref (B + r3)]) CX hM (kdl hk_r1 rfl) (ly1 hk_r1 _) rfl lk_X2_26 (c_X1_copyFrom l E B hk_r1 hk_r3 eq5) ⟨rfl, rfl, by decide, by decide⟩ rfl hl.1 rfl (Nat.le_of_ble_eq_true rfl) dX2_restore_32 (fun H locs hM => ?_)
      refine W.eq (g2 := F0 m 35 ls []) rfl ?_
      refine lv_aload_n hx hb dX2_restore_35 rfl (lv_at hl 2 rfl) ?_
      refine lv_iload_n hx hb dX2_restore_36 rfl (lv_at hl 1 rfl) ?_
      refine p2_1 (y := x2_1) CX hM hk_k wf_X2_18 dX2_restore_37 (fun H locs σ6 eσ6 hM => ?_)
      replace h := nm_h eσ6 h
      refine lv_aload_n hx hb dX2_restore_40 rfl (lv_at hl 2 rfl) ?_
      refine lv_dup hx hb dX2_restore_41 rfl ?_
      refine g2_2 CX hM hk_k wf_X2_30 dX2_restore_42 ?_
      refine lv_iconst (v := 1) hx hb dX2_restore_45 (by decide) ?_
      refine lv_isub hx hb dX2_restore_46 ?_
      refine p2_2 (y := ((σ6 k 2) - 1)) CX hM hk_k wf_X2_30 dX2_restore_47 (fun H locs σ7 eσ7 hM => ?_)
      replace h := nm_h eσ7 h
      obtain rfl := Option.some.inj h
      exact x_vret CX hr hlk hM rfl dX2_restore_50
def rm_X3_bringIn : Jvm.Room := { frames := 0, cells := 0, slots := 0, locals := 0 }
set_option maxHeartbeats 4000000 in
set_option maxRecDepth 100000 in
theorem c_X3_bringIn (l : Launch) (E : xE) (B : Nat) {k : Nat} {x1 : Int32} {σ : xM} {q : Unit × xM} (hk_k : kd k = 3) (h : F_X3_bringIn k x1 σ = some q) : Met l yX3_bringIn (Cond.code yX3_bringIn cX3_bringIn 2 none :: AL) rm_X3_bringIn (xP E B 160 (layX E B) [.ref (B + k), .int x1] σ) (xQ E B 160 (layX E B) none q.2) 0 0 (wA B 160) := by
  refine x_met (plainFor_of_name (by decide +kernel)) (Nat.le_of_ble_eq_true rfl) rfl ?_
  intro p e s m below meth c ls CX hr hlk hM hl
  have hx := CX.1.1
  have hb := CX.1.2.1
  unfold F_X3_bringIn at h
  refine lv_aload_n hx hb dX3_bringIn_0 rfl (lv_at hl 0 rfl) ?_
  refine lv_dup hx hb dX3_bringIn_1 rfl ?_
  refine g3_4 CX hM hk_k wf_X3_28 dX3_bringIn_2 ?_
  refine lv_iload_n hx hb dX3_bringIn_5 rfl (lv_at hl 1 rfl) ?_
  refine lv_iadd hx hb dX3_bringIn_6 ?_
  refine p3_4 (y := ((σ k 4) + x1)) CX hM hk_k wf_X3_28 dX3_bringIn_7 (fun H locs σ1 eσ1 hM => ?_)
  replace h := nm_h eσ1 h
  refine lv_aload_n hx hb dX3_bringIn_10 rfl (lv_at hl 0 rfl) ?_
  refine g3_0 CX hM hk_k wf_X3_12 dX3_bringIn_11 ?_
  refine lv_dup hx hb dX3_bringIn_14 rfl ?_
  refine g0_4 CX hM (kd3_f hk_k) wf_X3_94 dX3_bringIn_15 ?_
  refine lv_iload_n hx hb dX3_bringIn_18 rfl (lv_at hl 1 rfl) ?_
  refine lv_iadd hx hb dX3_bringIn_19 ?_
  refine p0_4 (y := ((σ1 (k + 1) 4) + x1)) CX hM (kd3_f hk_k) wf_X3_94 dX3_bringIn_20 (fun H locs σ2 eσ2 hM => ?_)
  replace h := nm_h eσ2 h
  obtain rfl := Option.some.inj h
  exact x_vret CX hr hlk hM rfl dX3_bringIn_23
def rm_X3_renewContact : Jvm.Room := { frames := 0, cells := 0, slots := 0, locals := 0 }
set_option maxHeartbeats 4000000 in
set_option maxRecDepth 100000 in
theorem c_X3_renewContact (l : Launch) (E : xE) (B : Nat) {k : Nat} {σ : xM} {q : Unit × xM} (hk_k : kd k = 3) (h : F_X3_renewContact k σ = some q) : Met l yX3_renewContact (Cond.code yX3_renewContact cX3_renewContact 1 none :: AL) rm_X3_renewContact (xP E B 160 (layX E B) [.ref (B + k)] σ) (xQ E B 160 (layX E B) none q.2) 0 0 (wA B 160) := by
  refine x_met (plainFor_of_name (by decide +kernel)) (Nat.le_of_ble_eq_true rfl) rfl ?_
  intro p e s m below meth c ls CX hr hlk hM hl
  have hx := CX.1.1
  have hb := CX.1.2.1
  unfold F_X3_renewContact at h
  refine lv_aload_n hx hb dX3_renewContact_0 rfl (lv_at hl 0 rfl) ?_
  refine lv_iconst (v := 0) hx hb dX3_renewContact_1 (by decide) ?_
  refine p3_11 (y := 0) CX hM hk_k wf_X3_54 dX3_renewContact_2 (fun H locs σ1 eσ1 hM => ?_)
  replace h := nm_h eσ1 h
  refine lv_aload_n hx hb dX3_renewContact_5 rfl (lv_at hl 0 rfl) ?_
  refine lv_iconst (v := 0) hx hb dX3_renewContact_6 (by decide) ?_
  refine p3_12 (y := 0) CX hM hk_k wf_X3_57 dX3_renewContact_7 (fun H locs σ2 eσ2 hM => ?_)
  replace h := nm_h eσ2 h
  refine lv_aload_n hx hb dX3_renewContact_10 rfl (lv_at hl 0 rfl) ?_
  refine lv_iconst (v := 0) hx hb dX3_renewContact_11 (by decide) ?_
  refine p3_9 (y := 0) CX hM hk_k wf_X3_48 dX3_renewContact_12 (fun H locs σ3 eσ3 hM => ?_)
  replace h := nm_h eσ3 h
  refine lv_aload_n hx hb dX3_renewContact_15 rfl (lv_at hl 0 rfl) ?_
  refine lv_iconst (v := 0) hx hb dX3_renewContact_16 (by decide) ?_
  refine p3_8 (y := 0) CX hM hk_k wf_X3_44 dX3_renewContact_17 (fun H locs σ4 eσ4 hM => ?_)
  replace h := nm_h eσ4 h
  obtain rfl := Option.some.inj h
  exact x_vret CX hr hlk hM rfl dX3_renewContact_20
def rm_X3_property : Jvm.Room := { frames := 3, cells := 0, slots := 0, locals := 63 }
set_option maxHeartbeats 4000000 in
set_option maxRecDepth 100000 in
theorem c_X3_property (l : Launch) (E : xE) (B : Nat) {k : Nat} {x1 : Int32} {σ : xM} {q : Int32 × xM} (hk_k : kd k = 3) (h : F_X3_property k x1 σ = some q) : Met l yX3_property (Cond.code yX3_property cX3_property 2 (some .int) :: AL) rm_X3_property (xP E B 160 (layX E B) [.ref (B + k), .int x1] σ) (xQ E B 160 (layX E B) (some (.int q.1)) q.2) 0 0 (wA B 160) := by
  refine x_met (plainFor_of_name (by decide +kernel)) (Nat.le_of_ble_eq_true rfl) rfl ?_
  intro p e s m below meth c ls CX hr hlk hM hl
  have hx := CX.1.1
  have hb := CX.1.2.1
  unfold F_X3_property at h
  refine lv_iload_n hx hb dX3_property_0 rfl (lv_at hl 1 rfl) ?_
  by_cases c1 : x1 = 0
  · replace h := it_h c1 h
    refine lv_tableIn (off := 71) (tgt := 72) hx hb dX3_property_1 (by rw [c1]; decide) (by rw [c1]; decide) (by rw [c1]; decide) (by decide) ?_
    refine lv_aload_n hx hb dX3_property_72 rfl (lv_at hl 0 rfl) ?_
    obtain ⟨q2, eq2, h⟩ := bd_h h
    refine x_callV (As := []) CX hM (kdl hk_k rfl) (ly3 hk_k _) rfl lk_X3_37 (c_X3_temperature l E B hk_k eq2) ⟨rfl, rfl, by decide, by decide⟩ rfl hl.1 rfl (Nat.le_of_ble_eq_true rfl) dX3_property_73 (fun H locs hM => ?_)
    refine W.eq (g2 := F0 m 76 ls [.int q2.1]) rfl ?_
    obtain rfl := Option.some.inj h
    exact x_iret CX hr hlk hM rfl dX3_property_76
  · replace h := if_h c1 h
    by_cases c3 : x1 = 1
    · replace h := it_h c3 h
      refine lv_tableIn (off := 76) (tgt := 77) hx hb dX3_property_1 (by rw [c3]; decide) (by rw [c3]; decide) (by rw [c3]; decide) (by decide) ?_
      refine lv_aload_n hx hb dX3_property_77 rfl (lv_at hl 0 rfl) ?_
      refine g3_4 CX hM hk_k wf_X3_28 dX3_property_78 ?_
      obtain rfl := Option.some.inj h
      exact x_iret CX hr hlk hM rfl dX3_property_81
    · replace h := if_h c3 h
      by_cases c4 : x1 = 2
      · replace h := it_h c4 h
        refine lv_tableIn (off := 81) (tgt := 82) hx hb dX3_property_1 (by rw [c4]; decide) (by rw [c4]; decide) (by rw [c4]; decide) (by decide) ?_
        refine lv_aload_n hx hb dX3_property_82 rfl (lv_at hl 0 rfl) ?_
        refine g3_7 CX hM hk_k wf_X3_41 dX3_property_83 ?_
        obtain rfl := Option.some.inj h
        exact x_iret CX hr hlk hM rfl dX3_property_86
      · replace h := if_h c4 h
        by_cases c5 : x1 = 3
        · replace h := it_h c5 h
          refine lv_tableIn (off := 86) (tgt := 87) hx hb dX3_property_1 (by rw [c5]; decide) (by rw [c5]; decide) (by rw [c5]; decide) (by decide) ?_
          refine lv_aload_n hx hb dX3_property_87 rfl (lv_at hl 0 rfl) ?_
          refine g3_8 CX hM hk_k wf_X3_44 dX3_property_88 ?_
          refine lv_if_eq (tgt := 98) hx hb dX3_property_91 (by decide) (fun c6 => ?_) (fun c6 => ?_)
          · replace h := it_h c6 h
            refine lv_iconst (v := 0) hx hb dX3_property_98 (by decide) ?_
            obtain rfl := Option.some.inj h
            exact x_iret CX hr hlk hM rfl dX3_property_99
          · replace h := if_h c6 h
            refine lv_iconst (v := 1) hx hb dX3_property_94 (by decide) ?_
            refine lv_goto (tgt := 99) hx hb dX3_property_95 (by decide) ?_
            obtain rfl := Option.some.inj h
            exact x_iret CX hr hlk hM rfl dX3_property_99
        · replace h := if_h c5 h
          by_cases c7 : x1 = 4
          · replace h := it_h c7 h
            refine lv_tableIn (off := 99) (tgt := 100) hx hb dX3_property_1 (by rw [c7]; decide) (by rw [c7]; decide) (by rw [c7]; decide) (by decide) ?_
            refine lv_aload_n hx hb dX3_property_100 rfl (lv_at hl 0 rfl) ?_
            refine g3_9 CX hM hk_k wf_X3_48 dX3_property_101 ?_
            refine lv_if_eq (tgt := 111) hx hb dX3_property_104 (by decide) (fun c8 => ?_) (fun c8 => ?_)
            · replace h := it_h c8 h
              refine lv_iconst (v := 0) hx hb dX3_property_111 (by decide) ?_
              obtain rfl := Option.some.inj h
              exact x_iret CX hr hlk hM rfl dX3_property_112
            · replace h := if_h c8 h
              refine lv_iconst (v := 1) hx hb dX3_property_107 (by decide) ?_
              refine lv_goto (tgt := 112) hx hb dX3_property_108 (by decide) ?_
              obtain rfl := Option.some.inj h
              exact x_iret CX hr hlk hM rfl dX3_property_112
          · replace h := if_h c7 h
            by_cases c9 : x1 = 5
            · replace h := it_h c9 h
              refine lv_tableIn (off := 112) (tgt := 113) hx hb dX3_property_1 (by rw [c9]; decide) (by rw [c9]; decide) (by rw [c9]; decide) (by decide) ?_
              refine lv_aload_n hx hb dX3_property_113 rfl (lv_at hl 0 rfl) ?_
              refine g3_11 CX hM hk_k wf_X3_54 dX3_property_114 ?_
              obtain rfl := Option.some.inj h
              exact x_iret CX hr hlk hM rfl dX3_property_117
            · replace h := if_h c9 h
              by_cases c10 : x1 = 6
              · replace h := it_h c10 h
                refine lv_tableIn (off := 117) (tgt := 118) hx hb dX3_property_1 (by rw [c10]; decide) (by rw [c10]; decide) (by rw [c10]; decide) (by decide) ?_
                refine lv_aload_n hx hb dX3_property_118 rfl (lv_at hl 0 rfl) ?_
                refine g3_12 CX hM hk_k wf_X3_57 dX3_property_119 ?_
                obtain rfl := Option.some.inj h
                exact x_iret CX hr hlk hM rfl dX3_property_122
              · replace h := if_h c10 h
                by_cases c11 : x1 = 7
                · replace h := it_h c11 h
                  refine lv_tableIn (off := 122) (tgt := 123) hx hb dX3_property_1 (by rw [c11]; decide) (by rw [c11]; decide) (by rw [c11]; decide) (by decide) ?_
                  refine lv_aload_n hx hb dX3_property_123 rfl (lv_at hl 0 rfl) ?_
                  refine g3_13 CX hM hk_k wf_X3_60 dX3_property_124 ?_
                  obtain rfl := Option.some.inj h
                  exact x_iret CX hr hlk hM rfl dX3_property_127
                · replace h := if_h c11 h
                  by_cases c12 : x1 = 8
                  · replace h := it_h c12 h
                    refine lv_tableIn (off := 127) (tgt := 128) hx hb dX3_property_1 (by rw [c12]; decide) (by rw [c12]; decide) (by rw [c12]; decide) (by decide) ?_
                    refine lv_aload_n hx hb dX3_property_128 rfl (lv_at hl 0 rfl) ?_
                    refine g3_15 CX hM hk_k wf_X3_67 dX3_property_129 ?_
                    obtain rfl := Option.some.inj h
                    exact x_iret CX hr hlk hM rfl dX3_property_132
                  · replace h := if_h c12 h
                    by_cases c13 : x1 = 9
                    · replace h := it_h c13 h
                      refine lv_tableIn (off := 132) (tgt := 133) hx hb dX3_property_1 (by rw [c13]; decide) (by rw [c13]; decide) (by rw [c13]; decide) (by decide) ?_
                      refine lv_aload_n hx hb dX3_property_133 rfl (lv_at hl 0 rfl) ?_
                      refine g3_16 CX hM hk_k wf_X3_70 dX3_property_134 ?_
                      obtain rfl := Option.some.inj h
                      exact x_iret CX hr hlk hM rfl dX3_property_137
                    · replace h := if_h c13 h
                      by_cases c14 : x1 = 10
                      · replace h := it_h c14 h
                        refine lv_tableIn (off := 137) (tgt := 138) hx hb dX3_property_1 (by rw [c14]; decide) (by rw [c14]; decide) (by rw [c14]; decide) (by decide) ?_
                        refine lv_aload_n hx hb dX3_property_138 rfl (lv_at hl 0 rfl) ?_
                        refine g3_10 CX hM hk_k wf_X3_51 dX3_property_139 ?_
                        refine lv_if_eq (tgt := 149) hx hb dX3_property_142 (by decide) (fun c15 => ?_) (fun c15 => ?_)
                        · replace h := it_h c15 h
                          refine lv_iconst (v := 0) hx hb dX3_property_149 (by decide) ?_
                          obtain rfl := Option.some.inj h
                          exact x_iret CX hr hlk hM rfl dX3_property_150
                        · replace h := if_h c15 h
                          refine lv_iconst (v := 1) hx hb dX3_property_145 (by decide) ?_
                          refine lv_goto (tgt := 150) hx hb dX3_property_146 (by decide) ?_
                          obtain rfl := Option.some.inj h
                          exact x_iret CX hr hlk hM rfl dX3_property_150
                      · replace h := if_h c14 h
                        by_cases c16 : x1 = 11
                        · replace h := it_h c16 h
                          refine lv_tableIn (off := 150) (tgt := 151) hx hb dX3_property_1 (by rw [c16]; decide) (by rw [c16]; decide) (by rw [c16]; decide) (by decide) ?_
                          refine lv_aload_n hx hb dX3_property_151 rfl (lv_at hl 0 rfl) ?_
                          refine g3_14 CX hM hk_k wf_X3_64 dX3_property_152 ?_
                          obtain rfl := Option.some.inj h
                          exact x_iret CX hr hlk hM rfl dX3_property_155
                        · replace h := if_h c16 h
                          by_cases c17 : x1 = 12
                          · replace h := it_h c17 h
                            refine lv_tableIn (off := 155) (tgt := 156) hx hb dX3_property_1 (by rw [c17]; decide) (by rw [c17]; decide) (by rw [c17]; decide) (by decide) ?_
                            refine lv_aload_n hx hb dX3_property_156 rfl (lv_at hl 0 rfl) ?_
                            refine g3_5 CX hM hk_k wf_X3_31 dX3_property_157 ?_
                            obtain rfl := Option.some.inj h
                            exact x_iret CX hr hlk hM rfl dX3_property_160
                          · replace h := if_h c17 h
                            by_cases c18 : x1 = 13
                            · replace h := it_h c18 h
                              refine lv_tableIn (off := 160) (tgt := 161) hx hb dX3_property_1 (by rw [c18]; decide) (by rw [c18]; decide) (by rw [c18]; decide) (by decide) ?_
                              refine lv_aload_n hx hb dX3_property_161 rfl (lv_at hl 0 rfl) ?_
                              refine g3_6 CX hM hk_k wf_X3_34 dX3_property_162 ?_
                              obtain rfl := Option.some.inj h
                              exact x_iret CX hr hlk hM rfl dX3_property_165
                            · replace h := if_h c18 h
                              refine lv_tableOut (tgt := 166) hx hb dX3_property_1 (tsw_out [0, 1, 2, 3, 4, 5, 6, 7, 8, 9, 10, 11, 12, 13] (by decide) (by decide) (List.forall_mem_cons.mpr ⟨c1, (List.forall_mem_cons.mpr ⟨c3, (List.forall_mem_cons.mpr ⟨c4, (List.forall_mem_cons.mpr ⟨c5, (List.forall_mem_cons.mpr ⟨c7, (List.forall_mem_cons.mpr ⟨c9, (List.forall_mem_cons.mpr ⟨c10, (List.forall_mem_cons.mpr ⟨c11, (List.forall_mem_cons.mpr ⟨c12, (List.forall_mem_cons.mpr ⟨c13, (List.forall_mem_cons.mpr ⟨c14, (List.forall_mem_cons.mpr ⟨c16, (List.forall_mem_cons.mpr ⟨c17, (List.forall_mem_cons.mpr ⟨c18, (fun _ h => absurd h List.not_mem_nil)⟩)⟩)⟩)⟩)⟩)⟩)⟩)⟩)⟩)⟩)⟩)⟩)⟩)⟩)) (by decide) ?_
                              refine lv_ldc (v := (-1000001)) hx hb CX.1.2.2.2.1 (x_hts CX wc_X3_106) dX3_property_166 ?_
                              obtain rfl := Option.some.inj h
                              exact x_iret CX hr hlk hM rfl dX3_property_168
def rm_X4_canTake : Jvm.Room := { frames := 0, cells := 0, slots := 0, locals := 0 }
set_option maxHeartbeats 4000000 in
set_option maxRecDepth 100000 in
theorem c_X4_canTake (l : Launch) (E : xE) (B : Nat) {k : Nat} {x1 : Int32} {σ : xM} {q : Int32 × xM} (hk_k : kd k = 4) (h : F_X4_canTake k x1 σ = some q) : Met l yX4_canTake (Cond.code yX4_canTake cX4_canTake 2 (some .boolean) :: AL) rm_X4_canTake (xP E B 160 (layX E B) [.ref (B + k), .int x1] σ) (xQ E B 160 (layX E B) (some (.int (bz q.1))) q.2) 0 0 (wA B 160) := by
  refine x_met (plainFor_of_name (by decide +kernel)) (Nat.le_of_ble_eq_true rfl) rfl ?_
  intro p e s m below meth c ls CX hr hlk hM hl
  have hx := CX.1.1
  have hb := CX.1.2.1
  unfold F_X4_canTake at h
  refine lv_aload_n hx hb dX4_canTake_0 rfl (lv_at hl 0 rfl) ?_
  refine g4_2 CX hM hk_k wf_X4_24 dX4_canTake_1 ?_
  refine lv_if_lt (tgt := 23) hx hb dX4_canTake_4 (by decide) (fun c1 => ?_) (fun c1 => ?_)
  · replace h := it_h c1 h
    refine lv_iconst (v := 0) hx hb dX4_canTake_23 (by decide) ?_
    obtain rfl := Option.some.inj h
    exact x_zret (y := 0) CX hr hlk hM rfl rfl dX4_canTake_24
  · replace h := if_h c1 h
    refine lv_aload_n hx hb dX4_canTake_7 rfl (lv_at hl 0 rfl) ?_
    refine g4_2 CX hM hk_k wf_X4_24 dX4_canTake_8 ?_
    refine lv_bipush (v := 12) hx hb dX4_canTake_11 (by decide) ?_
    refine lv_icmp_ge (tgt := 23) hx hb dX4_canTake_13 (by decide) (fun c2 => ?_) (fun c2 => ?_)
    · replace h := it_h c2 h
      refine lv_iconst (v := 0) hx hb dX4_canTake_23 (by decide) ?_
      obtain rfl := Option.some.inj h
      exact x_zret (y := 0) CX hr hlk hM rfl rfl dX4_canTake_24
    · replace h := if_h c2 h
      refine lv_iload_n hx hb dX4_canTake_16 rfl (lv_at hl 1 rfl) ?_
      refine lv_sipush (v := 9999) hx hb dX4_canTake_17 (by decide) ?_
      refine lv_icmp_le (tgt := 25) hx hb dX4_canTake_20 (by decide) (fun c3 => ?_) (fun c3 => ?_)
      · replace h := it_h c3 h
        refine lv_aload_n hx hb dX4_canTake_25 rfl (lv_at hl 0 rfl) ?_
        refine g4_2 CX hM hk_k wf_X4_24 dX4_canTake_26 ?_
        refine lv_if_eq (tgt := 47) hx hb dX4_canTake_29 (by decide) (fun c4 => ?_) (fun c4 => ?_)
        · replace h := it_h c4 h
          refine lv_iconst (v := 1) hx hb dX4_canTake_47 (by decide) ?_
          refine lv_goto (tgt := 52) hx hb dX4_canTake_48 (by decide) ?_
          obtain rfl := Option.some.inj h
          exact x_zret (y := 1) CX hr hlk hM rfl rfl dX4_canTake_52
        · replace h := if_h c4 h
          refine lv_iload_n hx hb dX4_canTake_32 rfl (lv_at hl 1 rfl) ?_
          refine lv_aload_n hx hb dX4_canTake_33 rfl (lv_at hl 0 rfl) ?_
          refine g4_0 CX hM hk_k wf_X4_9 dX4_canTake_34 ?_
          refine lv_aload_n hx hb dX4_canTake_37 rfl (lv_at hl 0 rfl) ?_
          refine g4_2 CX hM hk_k wf_X4_24 dX4_canTake_38 ?_
          refine lv_iconst (v := 1) hx hb dX4_canTake_41 (by decide) ?_
          refine lv_isub hx hb dX4_canTake_42 ?_
          obtain ⟨g5, h⟩ := ck_h h
          refine x_iald CX hM (kdl (kd4_f hk_k).1 rfl) (ly13 (kd4_f hk_k).1 _) g5 dX4_canTake_43 ?_
          refine lv_icmp_le (tgt := 51) hx hb dX4_canTake_44 (by decide) (fun c6 => ?_) (fun c6 => ?_)
          · replace h := it_h c6 h
            refine lv_iconst (v := 0) hx hb dX4_canTake_51 (by decide) ?_
            obtain rfl := Option.some.inj h
            exact x_zret (y := 0) CX hr hlk hM rfl rfl dX4_canTake_52
          · replace h := if_h c6 h
            refine lv_iconst (v := 1) hx hb dX4_canTake_47 (by decide) ?_
            refine lv_goto (tgt := 52) hx hb dX4_canTake_48 (by decide) ?_
            obtain rfl := Option.some.inj h
            exact x_zret (y := 1) CX hr hlk hM rfl rfl dX4_canTake_52
      · replace h := if_h c3 h
        refine lv_iconst (v := 0) hx hb dX4_canTake_23 (by decide) ?_
        obtain rfl := Option.some.inj h
        exact x_zret (y := 0) CX hr hlk hM rfl rfl dX4_canTake_24
def rm_X4_add : Jvm.Room := { frames := 0, cells := 0, slots := 0, locals := 0 }
set_option maxHeartbeats 4000000 in
set_option maxRecDepth 100000 in
theorem c_X4_add (l : Launch) (E : xE) (B : Nat) {k : Nat} {x1 : Int32} {x2 : Int32} {σ : xM} {q : Unit × xM} (hk_k : kd k = 4) (h : F_X4_add k x1 x2 σ = some q) : Met l yX4_add (Cond.code yX4_add cX4_add 3 none :: AL) rm_X4_add (xP E B 160 (layX E B) [.ref (B + k), .int x1, .int x2] σ) (xQ E B 160 (layX E B) none q.2) 0 0 (wA B 160) := by
  refine x_met (plainFor_of_name (by decide +kernel)) (Nat.le_of_ble_eq_true rfl) rfl ?_
  intro p e s m below meth c ls CX hr hlk hM hl
  have hx := CX.1.1
  have hb := CX.1.2.1
  unfold F_X4_add at h
  refine lv_aload_n hx hb dX4_add_0 rfl (lv_at hl 0 rfl) ?_
  refine g4_2 CX hM hk_k wf_X4_24 dX4_add_1 ?_
  refine lv_if_lt (tgt := 46) hx hb dX4_add_4 (by decide) (fun c1 => ?_) (fun c1 => ?_)
  · replace h := it_h c1 h
    obtain rfl := Option.some.inj h
    exact x_vret CX hr hlk hM rfl dX4_add_46
  · replace h := if_h c1 h
    refine lv_aload_n hx hb dX4_add_7 rfl (lv_at hl 0 rfl) ?_
    refine g4_2 CX hM hk_k wf_X4_24 dX4_add_8 ?_
    refine lv_bipush (v := 12) hx hb dX4_add_11 (by decide) ?_
    refine lv_icmp_ge (tgt := 46) hx hb dX4_add_13 (by decide) (fun c2 => ?_) (fun c2 => ?_)
    · replace h := it_h c2 h
      obtain rfl := Option.some.inj h
      exact x_vret CX hr hlk hM rfl dX4_add_46
    · replace h := if_h c2 h
      refine lv_aload_n hx hb dX4_add_16 rfl (lv_at hl 0 rfl) ?_
      refine g4_0 CX hM hk_k wf_X4_9 dX4_add_17 ?_
      refine lv_aload_n hx hb dX4_add_20 rfl (lv_at hl 0 rfl) ?_
      refine g4_2 CX hM hk_k wf_X4_24 dX4_add_21 ?_
      refine lv_iload_n hx hb dX4_add_24 rfl (lv_at hl 1 rfl) ?_
      obtain ⟨g3, h⟩ := ck_h h
      refine x_iast CX hM (kdl (kd4_f hk_k).1 rfl) (fun f => ly13 (kd4_f hk_k).1 f) g3 dX4_add_25 (fun H locs σ4 eσ4 hM => ?_)
      replace h := nm_h eσ4 h
      refine lv_aload_n hx hb dX4_add_26 rfl (lv_at hl 0 rfl) ?_
      refine g4_1 CX hM hk_k wf_X4_15 dX4_add_27 ?_
      refine lv_aload_n hx hb dX4_add_30 rfl (lv_at hl 0 rfl) ?_
      refine g4_2 CX hM hk_k wf_X4_24 dX4_add_31 ?_
      refine lv_iload_n hx hb dX4_add_34 rfl (lv_at hl 2 rfl) ?_
      obtain ⟨g5, h⟩ := ck_h h
      refine x_iast CX hM (kdl (kd4_f hk_k).2 rfl) (fun f => ly13 (kd4_f hk_k).2 f) g5 dX4_add_35 (fun H locs σ6 eσ6 hM => ?_)
      replace h := nm_h eσ6 h
      refine lv_aload_n hx hb dX4_add_36 rfl (lv_at hl 0 rfl) ?_
      refine lv_dup hx hb dX4_add_37 rfl ?_
      refine g4_2 CX hM hk_k wf_X4_24 dX4_add_38 ?_
      refine lv_iconst (v := 1) hx hb dX4_add_41 (by decide) ?_
      refine lv_iadd hx hb dX4_add_42 ?_
      refine p4_2 (y := ((σ6 k 2) + 1)) CX hM hk_k wf_X4_24 dX4_add_43 (fun H locs σ7 eσ7 hM => ?_)
      replace h := nm_h eσ7 h
      obtain rfl := Option.some.inj h
      exact x_vret CX hr hlk hM rfl dX4_add_46
def rm_X5_append : Jvm.Room := { frames := 0, cells := 0, slots := 0, locals := 0 }
set_option maxHeartbeats 4000000 in
set_option maxRecDepth 100000 in
theorem c_X5_append (l : Launch) (E : xE) (B : Nat) {k : Nat} {x1 : Int32} {σ : xM} {q : Int32 × xM} (hk_k : kd k = 5) (h : F_X5_append k x1 σ = some q) : Met l yX5_append (Cond.code yX5_append cX5_append 2 (some .boolean) :: AL) rm_X5_append (xP E B 160 (layX E B) [.ref (B + k), .int x1] σ) (xQ E B 160 (layX E B) (some (.int (bz q.1))) q.2) 0 0 (wA B 160) := by
  refine x_met (plainFor_of_name (by decide +kernel)) (Nat.le_of_ble_eq_true rfl) rfl ?_
  intro p e s m below meth c ls CX hr hlk hM hl
  have hx := CX.1.1
  have hb := CX.1.2.1
  unfold F_X5_append at h
  refine lv_aload_n hx hb dX5_append_0 rfl (lv_at hl 0 rfl) ?_
  refine g5_1 CX hM hk_k wf_X5_15 dX5_append_1 ?_
  refine lv_if_lt (tgt := 16) hx hb dX5_append_4 (by decide) (fun c1 => ?_) (fun c1 => ?_)
  · replace h := it_h c1 h
    refine lv_iconst (v := 0) hx hb dX5_append_16 (by decide) ?_
    obtain rfl := Option.some.inj h
    exact x_zret (y := 0) CX hr hlk hM rfl rfl dX5_append_17
  · replace h := if_h c1 h
    refine lv_aload_n hx hb dX5_append_7 rfl (lv_at hl 0 rfl) ?_
    refine g5_1 CX hM hk_k wf_X5_15 dX5_append_8 ?_
    refine lv_bipush (v := 100) hx hb dX5_append_11 (by decide) ?_
    refine lv_icmp_lt (tgt := 18) hx hb dX5_append_13 (by decide) (fun c2 => ?_) (fun c2 => ?_)
    · replace h := it_h c2 h
      refine lv_aload_n hx hb dX5_append_18 rfl (lv_at hl 0 rfl) ?_
      refine g5_0 CX hM hk_k wf_X5_9 dX5_append_19 ?_
      refine lv_aload_n hx hb dX5_append_22 rfl (lv_at hl 0 rfl) ?_
      refine g5_1 CX hM hk_k wf_X5_15 dX5_append_23 ?_
      refine lv_iload_n hx hb dX5_append_26 rfl (lv_at hl 1 rfl) ?_
      obtain ⟨g3, h⟩ := ck_h h
      refine x_iast CX hM (kdl (kd5_f hk_k) rfl) (fun f => ly15 (kd5_f hk_k) f) g3 dX5_append_27 (fun H locs σ4 eσ4 hM => ?_)
      replace h := nm_h eσ4 h
      refine lv_aload_n hx hb dX5_append_28 rfl (lv_at hl 0 rfl) ?_
      refine lv_dup hx hb dX5_append_29 rfl ?_
      refine g5_1 CX hM hk_k wf_X5_15 dX5_append_30 ?_
      refine lv_iconst (v := 1) hx hb dX5_append_33 (by decide) ?_
      refine lv_iadd hx hb dX5_append_34 ?_
      refine p5_1 (y := ((σ4 k 1) + 1)) CX hM hk_k wf_X5_15 dX5_append_35 (fun H locs σ5 eσ5 hM => ?_)
      replace h := nm_h eσ5 h
      refine lv_iconst (v := 1) hx hb dX5_append_38 (by decide) ?_
      obtain rfl := Option.some.inj h
      exact x_zret (y := 1) CX hr hlk hM rfl rfl dX5_append_39
    · replace h := if_h c2 h
      refine lv_iconst (v := 0) hx hb dX5_append_16 (by decide) ?_
      obtain rfl := Option.some.inj h
      exact x_zret (y := 0) CX hr hlk hM rfl rfl dX5_append_17
def rm_X5_here : Jvm.Room := { frames := 0, cells := 0, slots := 0, locals := 0 }
set_option maxHeartbeats 4000000 in
set_option maxRecDepth 100000 in
theorem c_X5_here (l : Launch) (E : xE) (B : Nat) {k : Nat} {σ : xM} {q : Int32 × xM} (hk_k : kd k = 5) (h : F_X5_here k σ = some q) : Met l yX5_here (Cond.code yX5_here cX5_here 1 (some .int) :: AL) rm_X5_here (xP E B 160 (layX E B) [.ref (B + k)] σ) (xQ E B 160 (layX E B) (some (.int q.1)) q.2) 0 0 (wA B 160) := by
  refine x_met (plainFor_of_name (by decide +kernel)) (Nat.le_of_ble_eq_true rfl) rfl ?_
  intro p e s m below meth c ls CX hr hlk hM hl
  have hx := CX.1.1
  have hb := CX.1.2.1
  unfold F_X5_here at h
  refine lv_aload_n hx hb dX5_here_0 rfl (lv_at hl 0 rfl) ?_
  refine g5_2 CX hM hk_k wf_X5_24 dX5_here_1 ?_
  refine lv_if_lt (tgt := 39) hx hb dX5_here_4 (by decide) (fun c1 => ?_) (fun c1 => ?_)
  · replace h := it_h c1 h
    refine lv_iconst (v := (-1)) hx hb dX5_here_39 (by decide) ?_
    obtain rfl := Option.some.inj h
    exact x_iret CX hr hlk hM rfl dX5_here_40
  · replace h := if_h c1 h
    refine lv_aload_n hx hb dX5_here_7 rfl (lv_at hl 0 rfl) ?_
    refine g5_2 CX hM hk_k wf_X5_24 dX5_here_8 ?_
    refine lv_aload_n hx hb dX5_here_11 rfl (lv_at hl 0 rfl) ?_
    refine g5_1 CX hM hk_k wf_X5_15 dX5_here_12 ?_
    refine lv_icmp_ge (tgt := 39) hx hb dX5_here_15 (by decide) (fun c2 => ?_) (fun c2 => ?_)
    · replace h := it_h c2 h
      refine lv_iconst (v := (-1)) hx hb dX5_here_39 (by decide) ?_
      obtain rfl := Option.some.inj h
      exact x_iret CX hr hlk hM rfl dX5_here_40
    · replace h := if_h c2 h
      refine lv_aload_n hx hb dX5_here_18 rfl (lv_at hl 0 rfl) ?_
      refine g5_2 CX hM hk_k wf_X5_24 dX5_here_19 ?_
      refine lv_bipush (v := 100) hx hb dX5_here_22 (by decide) ?_
      refine lv_icmp_ge (tgt := 39) hx hb dX5_here_24 (by decide) (fun c3 => ?_) (fun c3 => ?_)
      · replace h := it_h c3 h
        refine lv_iconst (v := (-1)) hx hb dX5_here_39 (by decide) ?_
        obtain rfl := Option.some.inj h
        exact x_iret CX hr hlk hM rfl dX5_here_40
      · replace h := if_h c3 h
        refine lv_aload_n hx hb dX5_here_27 rfl (lv_at hl 0 rfl) ?_
        refine g5_0 CX hM hk_k wf_X5_9 dX5_here_28 ?_
        refine lv_aload_n hx hb dX5_here_31 rfl (lv_at hl 0 rfl) ?_
        refine g5_2 CX hM hk_k wf_X5_24 dX5_here_32 ?_
        obtain ⟨g4, h⟩ := ck_h h
        refine x_iald CX hM (kdl (kd5_f hk_k) rfl) (ly15 (kd5_f hk_k) _) g4 dX5_here_35 ?_
        refine lv_goto (tgt := 40) hx hb dX5_here_36 (by decide) ?_
        obtain rfl := Option.some.inj h
        exact x_iret CX hr hlk hM rfl dX5_here_40
def rm_X5_skipSpaces : Jvm.Room := { frames := 1, cells := 0, slots := 0, locals := 20 }
set_option maxHeartbeats 4000000 in
set_option maxRecDepth 100000 in
theorem c_X5_skipSpaces (l : Launch) (E : xE) (B : Nat) {k : Nat} {σ : xM} {q : Unit × xM} (hk_k : kd k = 5) (h : F_X5_skipSpaces k σ = some q) : Met l yX5_skipSpaces (Cond.code yX5_skipSpaces cX5_skipSpaces 1 none :: AL) rm_X5_skipSpaces (xP E B 160 (layX E B) [.ref (B + k)] σ) (xQ E B 160 (layX E B) none q.2) 0 0 (wA B 160) := by
  refine x_met (plainFor_of_name (by decide +kernel)) (Nat.le_of_ble_eq_true rfl) rfl ?_
  intro p e s m below meth c ls CX hr hlk hM hl
  have hx := CX.1.1
  have hb := CX.1.2.1
  unfold F_X5_skipSpaces at h
  have L0 : ∀ (N : Nat) (σ : xM), ∀ (H : Heap) (locs : List Loc) (ls : Array Slot), xS E B 160 (layX E B) s σ H locs → lv_has ls 1 [(0, .ref (B + k))] → F_X5_skipSpaces_L0 k N  σ = some q → W p l e rm_X5_skipSpaces s m ([.ref (B + k)] : List Value).toArray below meth c H locs 0 0 (MQ below (xQ E B 160 (layX E B) none q.2) ([.ref (B + k)] : List Value).toArray s 0 0 (wA B 160)) (F0 m 0 ls []) := by
    clear hM hl h
    intro N
    induction N with
    | zero =>
      intro  σ  H locs ls hM hl h
      cases h
    | succ N ih =>
      intro  σ  H locs ls hM hl h
      rw [F_X5_skipSpaces_L0] at h
      refine lv_aload_n hx hb dX5_skipSpaces_0 rfl (lv_at hl 0 rfl) ?_
      refine g5_2 CX hM hk_k wf_X5_24 dX5_skipSpaces_1 ?_
      refine lv_aload_n hx hb dX5_skipSpaces_4 rfl (lv_at hl 0 rfl) ?_
      refine g5_1 CX hM hk_k wf_X5_15 dX5_skipSpaces_5 ?_
      refine lv_icmp_ge (tgt := 33) hx hb dX5_skipSpaces_8 (by decide) (fun c5 => ?_) (fun c5 => ?_)
      · replace h := it_h c5 h
        obtain rfl := Option.some.inj h
        exact x_vret CX hr hlk hM rfl dX5_skipSpaces_33
      · replace h := if_h c5 h
        refine lv_aload_n hx hb dX5_skipSpaces_11 rfl (lv_at hl 0 rfl) ?_
        obtain ⟨q6, eq6, h⟩ := bd_h h
        refine x_callV (As := []) CX hM (kdl hk_k rfl) (ly5 hk_k _) rfl lk_X5_30 (c_X5_here l E B hk_k eq6) ⟨rfl, rfl, by decide, by decide⟩ rfl hl.1 rfl (Nat.le_of_ble_eq_true rfl) dX5_skipSpaces_12 (fun H locs hM => ?_)
        refine W.eq (g2 := F0 m 15 ls [.int q6.1]) rfl ?_
        refine lv_bipush (v := 32) hx hb dX5_skipSpaces_15 (by decide) ?_
        refine lv_icmp_ne (tgt := 33) hx hb dX5_skipSpaces_17 (by decide) (fun c7 => ?_) (fun c7 => ?_)
        · replace h := if_h c7 h
          obtain rfl := Option.some.inj h
          exact x_vret CX hr hlk hM rfl dX5_skipSpaces_33
        · replace h := it_h c7 h
          refine lv_aload_n hx hb dX5_skipSpaces_20 rfl (lv_at hl 0 rfl) ?_
          refine lv_dup hx hb dX5_skipSpaces_21 rfl ?_
          refine g5_2 CX hM hk_k wf_X5_24 dX5_skipSpaces_22 ?_
          refine lv_iconst (v := 1) hx hb dX5_skipSpaces_25 (by decide) ?_
          refine lv_iadd hx hb dX5_skipSpaces_26 ?_
          refine p5_2 (y := ((q6.2 k 2) + 1)) CX hM hk_k wf_X5_24 dX5_skipSpaces_27 (fun H locs σ8 eσ8 hM => ?_)
          replace h := nm_h eσ8 h
          refine lv_goto (tgt := 0) hx hb dX5_skipSpaces_30 (by decide) ?_
          exact ih _  _ _ _ hM (lv_sub hl [0] rfl) h
  refine lv_aload_n hx hb dX5_skipSpaces_0 rfl (lv_at hl 0 rfl) ?_
  refine g5_2 CX hM hk_k wf_X5_24 dX5_skipSpaces_1 ?_
  refine lv_aload_n hx hb dX5_skipSpaces_4 rfl (lv_at hl 0 rfl) ?_
  refine g5_1 CX hM hk_k wf_X5_15 dX5_skipSpaces_5 ?_
  refine lv_icmp_ge (tgt := 33) hx hb dX5_skipSpaces_8 (by decide) (fun c1 => ?_) (fun c1 => ?_)
  · replace h := it_h c1 h
    obtain rfl := Option.some.inj h
    exact x_vret CX hr hlk hM rfl dX5_skipSpaces_33
  · replace h := if_h c1 h
    refine lv_aload_n hx hb dX5_skipSpaces_11 rfl (lv_at hl 0 rfl) ?_
    obtain ⟨q2, eq2, h⟩ := bd_h h
    refine x_callV (As := []) CX hM (kdl hk_k rfl) (ly5 hk_k _) rfl lk_X5_30 (c_X5_here l E B hk_k eq2) ⟨rfl, rfl, by decide, by decide⟩ rfl hl.1 rfl (Nat.le_of_ble_eq_true rfl) dX5_skipSpaces_12 (fun H locs hM => ?_)
    refine W.eq (g2 := F0 m 15 ls [.int q2.1]) rfl ?_
    refine lv_bipush (v := 32) hx hb dX5_skipSpaces_15 (by decide) ?_
    refine lv_icmp_ne (tgt := 33) hx hb dX5_skipSpaces_17 (by decide) (fun c3 => ?_) (fun c3 => ?_)
    · replace h := if_h c3 h
      obtain rfl := Option.some.inj h
      exact x_vret CX hr hlk hM rfl dX5_skipSpaces_33
    · replace h := it_h c3 h
      refine lv_aload_n hx hb dX5_skipSpaces_20 rfl (lv_at hl 0 rfl) ?_
      refine lv_dup hx hb dX5_skipSpaces_21 rfl ?_
      refine g5_2 CX hM hk_k wf_X5_24 dX5_skipSpaces_22 ?_
      refine lv_iconst (v := 1) hx hb dX5_skipSpaces_25 (by decide) ?_
      refine lv_iadd hx hb dX5_skipSpaces_26 ?_
      refine p5_2 (y := ((q2.2 k 2) + 1)) CX hM hk_k wf_X5_24 dX5_skipSpaces_27 (fun H locs σ4 eσ4 hM => ?_)
      replace h := nm_h eσ4 h
      refine lv_goto (tgt := 0) hx hb dX5_skipSpaces_30 (by decide) ?_
      exact L0 _ _  _ _ _ hM (lv_sub hl [0] rfl) h
def rm_X6_within : Jvm.Room := { frames := 0, cells := 0, slots := 0, locals := 0 }
set_option maxHeartbeats 4000000 in
set_option maxRecDepth 100000 in
theorem c_X6_within (l : Launch) (E : xE) (B : Nat) {x0 : Int32} {x1 : Int32} {x2 : Int32} {σ : xM} {q : Int32 × xM}  (h : F_X6_within x0 x1 x2 σ = some q) : Met l yX6_within (Cond.code yX6_within cX6_within 3 (some .boolean) :: AL) rm_X6_within (xP E B 160 (layX E B) [.int x0, .int x1, .int x2] σ) (xQ E B 160 (layX E B) (some (.int (bz q.1))) q.2) 0 0 (wA B 160) := by
  refine x_met (plainFor_of_name (by decide +kernel)) (Nat.le_of_ble_eq_true rfl) rfl ?_
  intro p e s m below meth c ls CX hr hlk hM hl
  have hx := CX.1.1
  have hb := CX.1.2.1
  unfold F_X6_within at h
  refine lv_iload_n hx hb dX6_within_0 rfl (lv_at hl 0 rfl) ?_
  refine lv_iload_n hx hb dX6_within_1 rfl (lv_at hl 1 rfl) ?_
  refine lv_icmp_lt (tgt := 14) hx hb dX6_within_2 (by decide) (fun c1 => ?_) (fun c1 => ?_)
  · replace h := it_h c1 h
    refine lv_iconst (v := 0) hx hb dX6_within_14 (by decide) ?_
    obtain rfl := Option.some.inj h
    exact x_zret (y := 0) CX hr hlk hM rfl rfl dX6_within_15
  · replace h := if_h c1 h
    refine lv_iload_n hx hb dX6_within_5 rfl (lv_at hl 0 rfl) ?_
    refine lv_iload_n hx hb dX6_within_6 rfl (lv_at hl 2 rfl) ?_
    refine lv_icmp_gt (tgt := 14) hx hb dX6_within_7 (by decide) (fun c2 => ?_) (fun c2 => ?_)
    · replace h := it_h c2 h
      refine lv_iconst (v := 0) hx hb dX6_within_14 (by decide) ?_
      obtain rfl := Option.some.inj h
      exact x_zret (y := 0) CX hr hlk hM rfl rfl dX6_within_15
    · replace h := if_h c2 h
      refine lv_iconst (v := 1) hx hb dX6_within_10 (by decide) ?_
      refine lv_goto (tgt := 15) hx hb dX6_within_11 (by decide) ?_
      obtain rfl := Option.some.inj h
      exact x_zret (y := 1) CX hr hlk hM rfl rfl dX6_within_15
def rm_X5_isDigitHere : Jvm.Room := { frames := 1, cells := 0, slots := 0, locals := 22 }
set_option maxHeartbeats 4000000 in
set_option maxRecDepth 100000 in
theorem c_X5_isDigitHere (l : Launch) (E : xE) (B : Nat) {k : Nat} {σ : xM} {q : Int32 × xM} (hk_k : kd k = 5) (h : F_X5_isDigitHere k σ = some q) : Met l yX5_isDigitHere (Cond.code yX5_isDigitHere cX5_isDigitHere 1 (some .boolean) :: AL) rm_X5_isDigitHere (xP E B 160 (layX E B) [.ref (B + k)] σ) (xQ E B 160 (layX E B) (some (.int (bz q.1))) q.2) 0 0 (wA B 160) := by
  refine x_met (plainFor_of_name (by decide +kernel)) (Nat.le_of_ble_eq_true rfl) rfl ?_
  intro p e s m below meth c ls CX hr hlk hM hl
  have hx := CX.1.1
  have hb := CX.1.2.1
  unfold F_X5_isDigitHere at h
  refine lv_aload_n hx hb dX5_isDigitHere_0 rfl (lv_at hl 0 rfl) ?_
  obtain ⟨q1, eq1, h⟩ := bd_h h
  refine x_callV (As := []) CX hM (kdl hk_k rfl) (ly5 hk_k _) rfl lk_X5_30 (c_X5_here l E B hk_k eq1) ⟨rfl, rfl, by decide, by decide⟩ rfl hl.1 rfl (Nat.le_of_ble_eq_true rfl) dX5_isDigitHere_1 (fun H locs hM => ?_)
  refine W.eq (g2 := F0 m 4 ls [.int q1.1]) rfl ?_
  refine lv_bipush (v := 48) hx hb dX5_isDigitHere_4 (by decide) ?_
  refine lv_bipush (v := 57) hx hb dX5_isDigitHere_6 (by decide) ?_
  obtain ⟨q2, eq2, h⟩ := bd_h h
  refine x_callSN (na := 3) (As := [.int q1.1, .int 48, .int 57]) CX hM CX.2.2.1 ⟨⟨ws_X6_within, wi_X6, wk_X6_within⟩, by decide, by decide, by decide +kernel⟩ (c_X6_within l E B  eq2) ⟨rfl, rfl, by decide, by decide⟩ rfl hl.1 rfl (Nat.le_of_ble_eq_true rfl) dX5_isDigitHere_8 (fun H locs hM => ?_)
  refine W.eq (g2 := F0 m 11 ls [.int (bz q2.1)]) rfl ?_
  obtain rfl := Option.some.inj h
  exact x_zret (y := q2.1) CX hr hlk hM rfl rfl dX5_isDigitHere_11
