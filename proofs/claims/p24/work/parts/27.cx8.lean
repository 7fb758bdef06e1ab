def rm_L_does : Jvm.Room := { frames := 8, cells := 0, slots := 0, locals := 175 }
set_option maxHeartbeats 4000000 in
set_option maxRecDepth 100000 in
theorem c_L_does (l : Launch) (E : xE) (B : Nat) {r0 : Nat} {x1 : Int32} {σ : xM} {q : Int32 × xM} (hk_r0 : kd r0 = 6) (h : F_L_does r0 x1 σ = some q) : Met l yL_does (Cond.code yL_does cL_does 3 (some .int) :: AL) rm_L_does (xP E B 160 (layX E B) [.ref (B + r0), .int x1] σ) (xQ E B 160 (layX E B) (some (.int q.1)) q.2) 0 0 (wA B 160) := by
  refine x_met (plainFor_of_name (by decide +kernel)) (Nat.le_of_ble_eq_true rfl) rfl ?_
  intro p e s m below meth c ls CX hr hlk hM hl
  have hx := CX.1.1
  have hb := CX.1.2.1
  unfold F_L_does at h
  refine lv_iload_n hx hb dL_does_0 rfl (lv_at hl 1 rfl) ?_
  refine lv_iconst (v := 4) hx hb dL_does_1 (by decide) ?_
  refine lv_ishr hx hb dL_does_2 ?_
  refine lv_iconst (v := 4) hx hb dL_does_3 (by decide) ?_
  obtain ⟨q1, eq1, h⟩ := bd_h h
  refine x_callS (As := [.int (x1 >>> (4 &&& 31)), .int 4]) CX hM lk_L_34 (c_L_low l E B  eq1) ⟨rfl, rfl, by decide, by decide⟩ rfl hl.1 rfl (Nat.le_of_ble_eq_true rfl) dL_does_4 (fun H locs hM => ?_)
  refine W.eq (g2 := F0 m 7 ls [.int q1.1]) rfl ?_
  refine lv_istore_n (lv' := [(2, .int q1.1), (0, .ref (B + r0)), (1, .int x1)]) hx hb dL_does_7 rfl hl (by decide) rfl (fun ls hl => ?_)
  refine lv_iload_n hx hb dL_does_8 rfl (lv_at hl 2 rfl) ?_
  refine lv_bipush (v := 15) hx hb dL_does_9 (by decide) ?_
  refine lv_iand hx hb dL_does_11 ?_
  by_cases c2 : (x1 &&& 15) = 0
  · replace h := it_h c2 h
    refine lv_tableIn (off := 52) (tgt := 64) hx hb dL_does_12 (by rw [c2]; decide) (by rw [c2]; decide) (by rw [c2]; decide) (by decide) ?_
    refine lv_aload_n hx hb dL_does_64 rfl (lv_at hl 1 rfl) ?_
    refine lv_bipush (v := 9) hx hb dL_does_65 (by decide) ?_
    refine lv_iload_n hx hb dL_does_67 rfl (lv_at hl 2 rfl) ?_
    refine lv_bipush (v := 6) hx hb dL_does_68 (by decide) ?_
    refine lv_ishr hx hb dL_does_70 ?_
    refine lv_sipush (v := 150) hx hb dL_does_71 (by decide) ?_
    obtain ⟨q3, eq3, h⟩ := bd_h h
    refine x_callS (As := [.int (x1 >>> (6 &&& 31)), .int 150]) CX hM lk_L_34 (c_L_low l E B  eq3) ⟨rfl, rfl, by decide, by decide⟩ rfl hl.1 rfl (Nat.le_of_ble_eq_true rfl) dL_does_74 (fun H locs hM => ?_)
    refine W.eq (g2 := F0 m 77 ls [.int q3.1, .int 9, .ref (B + r0)]) rfl ?_
    refine lv_iadd hx hb dL_does_77 ?_
    refine lv_iconst (v := 1) hx hb dL_does_78 (by decide) ?_
    refine lv_iload_n hx hb dL_does_79 rfl (lv_at hl 2 rfl) ?_
    refine lv_bipush (v := 14) hx hb dL_does_80 (by decide) ?_
    refine lv_ishr hx hb dL_does_82 ?_
    refine lv_sipush (v := 200) hx hb dL_does_83 (by decide) ?_
    obtain ⟨q4, eq4, h⟩ := bd_h h
    refine x_callS (As := [.int (x1 >>> (14 &&& 31)), .int 200]) CX hM lk_L_34 (c_L_low l E B  eq4) ⟨rfl, rfl, by decide, by decide⟩ rfl hl.1 rfl (Nat.le_of_ble_eq_true rfl) dL_does_86 (fun H locs hM => ?_)
    refine W.eq (g2 := F0 m 89 ls [.int q4.1, .int 1, .int (9 + q3.1), .ref (B + r0)]) rfl ?_
    refine lv_iadd hx hb dL_does_89 ?_
    refine lv_iload_n hx hb dL_does_90 rfl (lv_at hl 2 rfl) ?_
    refine lv_bipush (v := 22) hx hb dL_does_91 (by decide) ?_
    refine lv_ishr hx hb dL_does_93 ?_
    refine lv_bipush (v := 12) hx hb dL_does_94 (by decide) ?_
    obtain ⟨q5, eq5, h⟩ := bd_h h
    refine x_callS (As := [.int (x1 >>> (22 &&& 31)), .int 12]) CX hM lk_L_34 (c_L_low l E B  eq5) ⟨rfl, rfl, by decide, by decide⟩ rfl hl.1 rfl (Nat.le_of_ble_eq_true rfl) dL_does_96 (fun H locs hM => ?_)
    refine W.eq (g2 := F0 m 99 ls [.int q5.1, .int (1 + q4.1), .int (9 + q3.1), .ref (B + r0)]) rfl ?_
    refine lv_iload_n hx hb dL_does_99 rfl (lv_at hl 2 rfl) ?_
    refine lv_bipush (v := 26) hx hb dL_does_100 (by decide) ?_
    refine lv_ishr hx hb dL_does_102 ?_
    refine lv_bipush (v := 30) hx hb dL_does_103 (by decide) ?_
    obtain ⟨q6, eq6, h⟩ := bd_h h
    refine x_callS (As := [.int (x1 >>> (26 &&& 31)), .int 30]) CX hM lk_L_34 (c_L_low l E B  eq6) ⟨rfl, rfl, by decide, by decide⟩ rfl hl.1 rfl (Nat.le_of_ble_eq_true rfl) dL_does_105 (fun H locs hM => ?_)
    refine W.eq (g2 := F0 m 108 ls [.int q6.1, .int q5.1, .int (1 + q4.1), .int (9 + q3.1), .ref (B + r0)]) rfl ?_
    refine lv_iconst (v := 5) hx hb dL_does_108 (by decide) ?_
    refine lv_isub hx hb dL_does_109 ?_
    obtain ⟨q7, eq7, h⟩ := bd_h h
    refine x_callV (As := [.int (9 + q3.1), .int (1 + q4.1), .int q5.1, .int (q6.1 - 5)]) CX hM (kdl hk_r0 rfl) (ly6 hk_r0 _) rfl lk_L_39 (c_X6_addRoom l E B hk_r0 eq7) ⟨rfl, rfl, by decide, by decide⟩ rfl hl.1 rfl (Nat.le_of_ble_eq_true rfl) dL_does_110 (fun H locs hM => ?_)
    refine W.eq (g2 := F0 m 113 ls [.int q7.1]) rfl ?_
    obtain rfl := Option.some.inj h
    exact x_iret CX hr hlk hM rfl dL_does_113
  · replace h := if_h c2 h
    by_cases c8 : (x1 &&& 15) = 1
    · replace h := it_h c8 h
      refine lv_tableIn (off := 52) (tgt := 64) hx hb dL_does_12 (by rw [c8]; decide) (by rw [c8]; decide) (by rw [c8]; decide) (by decide) ?_
      refine lv_aload_n hx hb dL_does_64 rfl (lv_at hl 1 rfl) ?_
      refine lv_bipush (v := 9) hx hb dL_does_65 (by decide) ?_
      refine lv_iload_n hx hb dL_does_67 rfl (lv_at hl 2 rfl) ?_
      refine lv_bipush (v := 6) hx hb dL_does_68 (by decide) ?_
      refine lv_ishr hx hb dL_does_70 ?_
      refine lv_sipush (v := 150) hx hb dL_does_71 (by decide) ?_
      obtain ⟨q9, eq9, h⟩ := bd_h h
      refine x_callS (As := [.int (x1 >>> (6 &&& 31)), .int 150]) CX hM lk_L_34 (c_L_low l E B  eq9) ⟨rfl, rfl, by decide, by decide⟩ rfl hl.1 rfl (Nat.le_of_ble_eq_true rfl) dL_does_74 (fun H locs hM => ?_)
      refine W.eq (g2 := F0 m 77 ls [.int q9.1, .int 9, .ref (B + r0)]) rfl ?_
      refine lv_iadd hx hb dL_does_77 ?_
      refine lv_iconst (v := 1) hx hb dL_does_78 (by decide) ?_
      refine lv_iload_n hx hb dL_does_79 rfl (lv_at hl 2 rfl) ?_
      refine lv_bipush (v := 14) hx hb dL_does_80 (by decide) ?_
      refine lv_ishr hx hb dL_does_82 ?_
      refine lv_sipush (v := 200) hx hb dL_does_83 (by decide) ?_
      obtain ⟨q10, eq10, h⟩ := bd_h h
      refine x_callS (As := [.int (x1 >>> (14 &&& 31)), .int 200]) CX hM lk_L_34 (c_L_low l E B  eq10) ⟨rfl, rfl, by decide, by decide⟩ rfl hl.1 rfl (Nat.le_of_ble_eq_true rfl) dL_does_86 (fun H locs hM => ?_)
      refine W.eq (g2 := F0 m 89 ls [.int q10.1, .int 1, .int (9 + q9.1), .ref (B + r0)]) rfl ?_
      refine lv_iadd hx hb dL_does_89 ?_
      refine lv_iload_n hx hb dL_does_90 rfl (lv_at hl 2 rfl) ?_
      refine lv_bipush (v := 22) hx hb dL_does_91 (by decide) ?_
      refine lv_ishr hx hb dL_does_93 ?_
      refine lv_bipush (v := 12) hx hb dL_does_94 (by decide) ?_
      obtain ⟨q11, eq11, h⟩ := bd_h h
      refine x_callS (As := [.int (x1 >>> (22 &&& 31)), .int 12]) CX hM lk_L_34 (c_L_low l E B  eq11) ⟨rfl, rfl, by decide, by decide⟩ rfl hl.1 rfl (Nat.le_of_ble_eq_true rfl) dL_does_96 (fun H locs hM => ?_)
      refine W.eq (g2 := F0 m 99 ls [.int q11.1, .int (1 + q10.1), .int (9 + q9.1), .ref (B + r0)]) rfl ?_
      refine lv_iload_n hx hb dL_does_99 rfl (lv_at hl 2 rfl) ?_
      refine lv_bipush (v := 26) hx hb dL_does_100 (by decide) ?_
      refine lv_ishr hx hb dL_does_102 ?_
      refine lv_bipush (v := 30) hx hb dL_does_103 (by decide) ?_
      obtain ⟨q12, eq12, h⟩ := bd_h h
      refine x_callS (As := [.int (x1 >>> (26 &&& 31)), .int 30]) CX hM lk_L_34 (c_L_low l E B  eq12) ⟨rfl, rfl, by decide, by decide⟩ rfl hl.1 rfl (Nat.le_of_ble_eq_true rfl) dL_does_105 (fun H locs hM => ?_)
      refine W.eq (g2 := F0 m 108 ls [.int q12.1, .int q11.1, .int (1 + q10.1), .int (9 + q9.1), .ref (B + r0)]) rfl ?_
      refine lv_iconst (v := 5) hx hb dL_does_108 (by decide) ?_
      refine lv_isub hx hb dL_does_109 ?_
      obtain ⟨q13, eq13, h⟩ := bd_h h
      refine x_callV (As := [.int (9 + q9.1), .int (1 + q10.1), .int q11.1, .int (q12.1 - 5)]) CX hM (kdl hk_r0 rfl) (ly6 hk_r0 _) rfl lk_L_39 (c_X6_addRoom l E B hk_r0 eq13) ⟨rfl, rfl, by decide, by decide⟩ rfl hl.1 rfl (Nat.le_of_ble_eq_true rfl) dL_does_110 (fun H locs hM => ?_)
      refine W.eq (g2 := F0 m 113 ls [.int q13.1]) rfl ?_
      obtain rfl := Option.some.inj h
      exact x_iret CX hr hlk hM rfl dL_does_113
    · replace h := if_h c8 h
      by_cases c14 : (x1 &&& 15) = 2
      · replace h := it_h c14 h
        refine lv_tableIn (off := 102) (tgt := 114) hx hb dL_does_12 (by rw [c14]; decide) (by rw [c14]; decide) (by rw [c14]; decide) (by decide) ?_
        refine lv_aload_n hx hb dL_does_114 rfl (lv_at hl 1 rfl) ?_
        refine lv_iload_n hx hb dL_does_115 rfl (lv_at hl 0 rfl) ?_
        refine lv_iload_n hx hb dL_does_116 rfl (lv_at hl 2 rfl) ?_
        refine lv_bipush (v := 6) hx hb dL_does_117 (by decide) ?_
        refine lv_ishr hx hb dL_does_119 ?_
        refine lv_iconst (v := 4) hx hb dL_does_120 (by decide) ?_
        obtain ⟨q15, eq15, h⟩ := bd_h h
        refine x_callS (As := [.int (x1 >>> (6 &&& 31)), .int 4]) CX hM lk_L_34 (c_L_low l E B  eq15) ⟨rfl, rfl, by decide, by decide⟩ rfl hl.1 rfl (Nat.le_of_ble_eq_true rfl) dL_does_121 (fun H locs hM => ?_)
        refine W.eq (g2 := F0 m 124 ls [.int q15.1, .int q1.1, .ref (B + r0)]) rfl ?_
        refine lv_iload_n hx hb dL_does_124 rfl (lv_at hl 2 rfl) ?_
        refine lv_bipush (v := 8) hx hb dL_does_125 (by decide) ?_
        refine lv_ishr hx hb dL_does_127 ?_
        refine lv_bipush (v := 30) hx hb dL_does_128 (by decide) ?_
        obtain ⟨q16, eq16, h⟩ := bd_h h
        refine x_callS (As := [.int (x1 >>> (8 &&& 31)), .int 30]) CX hM lk_L_34 (c_L_low l E B  eq16) ⟨rfl, rfl, by decide, by decide⟩ rfl hl.1 rfl (Nat.le_of_ble_eq_true rfl) dL_does_130 (fun H locs hM => ?_)
        refine W.eq (g2 := F0 m 133 ls [.int q16.1, .int q15.1, .int q1.1, .ref (B + r0)]) rfl ?_
        obtain ⟨q17, eq17, h⟩ := bd_h h
        refine x_callV (As := [.int q1.1, .int q15.1, .int q16.1]) CX hM (kdl hk_r0 rfl) (ly6 hk_r0 _) rfl lk_L_43 (c_X6_setLink l E B hk_r0 eq17) ⟨rfl, rfl, by decide, by decide⟩ rfl hl.1 rfl (Nat.le_of_ble_eq_true rfl) dL_does_133 (fun H locs hM => ?_)
        refine W.eq (g2 := F0 m 136 ls [.int q17.1]) rfl ?_
        obtain rfl := Option.some.inj h
        exact x_iret CX hr hlk hM rfl dL_does_136
      · replace h := if_h c14 h
        by_cases c18 : (x1 &&& 15) = 3
        · replace h := it_h c18 h
          refine lv_tableIn (off := 102) (tgt := 114) hx hb dL_does_12 (by rw [c18]; decide) (by rw [c18]; decide) (by rw [c18]; decide) (by decide) ?_
          refine lv_aload_n hx hb dL_does_114 rfl (lv_at hl 1 rfl) ?_
          refine lv_iload_n hx hb dL_does_115 rfl (lv_at hl 0 rfl) ?_
          refine lv_iload_n hx hb dL_does_116 rfl (lv_at hl 2 rfl) ?_
          refine lv_bipush (v := 6) hx hb dL_does_117 (by decide) ?_
          refine lv_ishr hx hb dL_does_119 ?_
          refine lv_iconst (v := 4) hx hb dL_does_120 (by decide) ?_
          obtain ⟨q19, eq19, h⟩ := bd_h h
          refine x_callS (As := [.int (x1 >>> (6 &&& 31)), .int 4]) CX hM lk_L_34 (c_L_low l E B  eq19) ⟨rfl, rfl, by decide, by decide⟩ rfl hl.1 rfl (Nat.le_of_ble_eq_true rfl) dL_does_121 (fun H locs hM => ?_)
          refine W.eq (g2 := F0 m 124 ls [.int q19.1, .int q1.1, .ref (B + r0)]) rfl ?_
          refine lv_iload_n hx hb dL_does_124 rfl (lv_at hl 2 rfl) ?_
          refine lv_bipush (v := 8) hx hb dL_does_125 (by decide) ?_
          refine lv_ishr hx hb dL_does_127 ?_
          refine lv_bipush (v := 30) hx hb dL_does_128 (by decide) ?_
          obtain ⟨q20, eq20, h⟩ := bd_h h
          refine x_callS (As := [.int (x1 >>> (8 &&& 31)), .int 30]) CX hM lk_L_34 (c_L_low l E B  eq20) ⟨rfl, rfl, by decide, by decide⟩ rfl hl.1 rfl (Nat.le_of_ble_eq_true rfl) dL_does_130 (fun H locs hM => ?_)
          refine W.eq (g2 := F0 m 133 ls [.int q20.1, .int q19.1, .int q1.1, .ref (B + r0)]) rfl ?_
          obtain ⟨q21, eq21, h⟩ := bd_h h
          refine x_callV (As := [.int q1.1, .int q19.1, .int q20.1]) CX hM (kdl hk_r0 rfl) (ly6 hk_r0 _) rfl lk_L_43 (c_X6_setLink l E B hk_r0 eq21) ⟨rfl, rfl, by decide, by decide⟩ rfl hl.1 rfl (Nat.le_of_ble_eq_true rfl) dL_does_133 (fun H locs hM => ?_)
          refine W.eq (g2 := F0 m 136 ls [.int q21.1]) rfl ?_
          obtain rfl := Option.some.inj h
          exact x_iret CX hr hlk hM rfl dL_does_136
        · replace h := if_h c18 h
          by_cases c22 : (x1 &&& 15) = 4
          · replace h := it_h c22 h
            refine lv_tableIn (off := 125) (tgt := 137) hx hb dL_does_12 (by rw [c22]; decide) (by rw [c22]; decide) (by rw [c22]; decide) (by decide) ?_
            refine lv_aload_n hx hb dL_does_137 rfl (lv_at hl 1 rfl) ?_
            refine lv_iload_n hx hb dL_does_138 rfl (lv_at hl 0 rfl) ?_
            refine lv_sipush (v := 5000) hx hb dL_does_139 (by decide) ?_
            refine lv_sipush (v := 1000) hx hb dL_does_142 (by decide) ?_
            refine lv_iload_n hx hb dL_does_145 rfl (lv_at hl 2 rfl) ?_
            refine lv_bipush (v := 6) hx hb dL_does_146 (by decide) ?_
            refine lv_ishr hx hb dL_does_148 ?_
            refine lv_bipush (v := 31) hx hb dL_does_149 (by decide) ?_
            obtain ⟨q23, eq23, h⟩ := bd_h h
            refine x_callS (As := [.int (x1 >>> (6 &&& 31)), .int 31]) CX hM lk_L_34 (c_L_low l E B  eq23) ⟨rfl, rfl, by decide, by decide⟩ rfl hl.1 rfl (Nat.le_of_ble_eq_true rfl) dL_does_151 (fun H locs hM => ?_)
            refine W.eq (g2 := F0 m 154 ls [.int q23.1, .int 1000, .int 5000, .int q1.1, .ref (B + r0)]) rfl ?_
            refine lv_imul hx hb dL_does_154 ?_
            refine lv_iadd hx hb dL_does_155 ?_
            refine lv_bipush (v := 100) hx hb dL_does_156 (by decide) ?_
            refine lv_iload_n hx hb dL_does_158 rfl (lv_at hl 2 rfl) ?_
            refine lv_bipush (v := 11) hx hb dL_does_159 (by decide) ?_
            refine lv_ishr hx hb dL_does_161 ?_
            refine lv_bipush (v := 20) hx hb dL_does_162 (by decide) ?_
            obtain ⟨q24, eq24, h⟩ := bd_h h
            refine x_callS (As := [.int (x1 >>> (11 &&& 31)), .int 20]) CX hM lk_L_34 (c_L_low l E B  eq24) ⟨rfl, rfl, by decide, by decide⟩ rfl hl.1 rfl (Nat.le_of_ble_eq_true rfl) dL_does_164 (fun H locs hM => ?_)
            refine W.eq (g2 := F0 m 167 ls [.int q24.1, .int 100, .int (5000 + (1000 * q23.1)), .int q1.1, .ref (B + r0)]) rfl ?_
            refine lv_imul hx hb dL_does_167 ?_
            obtain ⟨q25, eq25, h⟩ := bd_h h
            refine x_callV (As := [.int q1.1, .int (5000 + (1000 * q23.1)), .int (100 * q24.1)]) CX hM (kdl hk_r0 rfl) (ly6 hk_r0 _) rfl lk_L_47 (c_X6_setThermostat l E B hk_r0 eq25) ⟨rfl, rfl, by decide, by decide⟩ rfl hl.1 rfl (Nat.le_of_ble_eq_true rfl) dL_does_168 (fun H locs hM => ?_)
            refine W.eq (g2 := F0 m 171 ls [.int q25.1]) rfl ?_
            obtain rfl := Option.some.inj h
            exact x_iret CX hr hlk hM rfl dL_does_171
          · replace h := if_h c22 h
            by_cases c26 : (x1 &&& 15) = 5
            · replace h := it_h c26 h
              refine lv_tableIn (off := 160) (tgt := 172) hx hb dL_does_12 (by rw [c26]; decide) (by rw [c26]; decide) (by rw [c26]; decide) (by decide) ?_
              refine lv_aload_n hx hb dL_does_172 rfl (lv_at hl 1 rfl) ?_
              refine lv_iload_n hx hb dL_does_173 rfl (lv_at hl 2 rfl) ?_
              refine lv_bipush (v := 6) hx hb dL_does_174 (by decide) ?_
              refine lv_ishr hx hb dL_does_176 ?_
              refine lv_bipush (v := 8) hx hb dL_does_177 (by decide) ?_
              obtain ⟨q27, eq27, h⟩ := bd_h h
              refine x_callS (As := [.int (x1 >>> (6 &&& 31)), .int 8]) CX hM lk_L_34 (c_L_low l E B  eq27) ⟨rfl, rfl, by decide, by decide⟩ rfl hl.1 rfl (Nat.le_of_ble_eq_true rfl) dL_does_179 (fun H locs hM => ?_)
              refine W.eq (g2 := F0 m 182 ls [.int q27.1, .ref (B + r0)]) rfl ?_
              refine lv_iload_n hx hb dL_does_182 rfl (lv_at hl 2 rfl) ?_
              refine lv_bipush (v := 9) hx hb dL_does_183 (by decide) ?_
              refine lv_ishr hx hb dL_does_185 ?_
              refine lv_bipush (v := 60) hx hb dL_does_186 (by decide) ?_
              obtain ⟨q28, eq28, h⟩ := bd_h h
              refine x_callS (As := [.int (x1 >>> (9 &&& 31)), .int 60]) CX hM lk_L_34 (c_L_low l E B  eq28) ⟨rfl, rfl, by decide, by decide⟩ rfl hl.1 rfl (Nat.le_of_ble_eq_true rfl) dL_does_188 (fun H locs hM => ?_)
              refine W.eq (g2 := F0 m 191 ls [.int q28.1, .int q27.1, .ref (B + r0)]) rfl ?_
              obtain ⟨q29, eq29, h⟩ := bd_h h
              refine x_callV (As := [.int q27.1, .int q28.1]) CX hM (kdl hk_r0 rfl) (ly6 hk_r0 _) rfl lk_L_50 (c_X6_setNumber l E B hk_r0 eq29) ⟨rfl, rfl, by decide, by decide⟩ rfl hl.1 rfl (Nat.le_of_ble_eq_true rfl) dL_does_191 (fun H locs hM => ?_)
              refine W.eq (g2 := F0 m 194 ls [.int q29.1]) rfl ?_
              obtain rfl := Option.some.inj h
              exact x_iret CX hr hlk hM rfl dL_does_194
            · replace h := if_h c26 h
              by_cases c30 : (x1 &&& 15) = 6
              · replace h := it_h c30 h
                refine lv_tableIn (off := 183) (tgt := 195) hx hb dL_does_12 (by rw [c30]; decide) (by rw [c30]; decide) (by rw [c30]; decide) (by decide) ?_
                refine lv_aload_n hx hb dL_does_195 rfl (lv_at hl 1 rfl) ?_
                refine lv_iload_n hx hb dL_does_196 rfl (lv_at hl 0 rfl) ?_
                refine lv_iload_n hx hb dL_does_197 rfl (lv_at hl 2 rfl) ?_
                refine lv_bipush (v := 6) hx hb dL_does_198 (by decide) ?_
                refine lv_ishr hx hb dL_does_200 ?_
                refine lv_ldc (v := 40001) hx hb CX.1.2.2.2.1 (x_hts CX wc_L_53) dL_does_201 ?_
                obtain ⟨q31, eq31, h⟩ := bd_h h
                refine x_callS (As := [.int (x1 >>> (6 &&& 31)), .int 40001]) CX hM lk_L_34 (c_L_low l E B  eq31) ⟨rfl, rfl, by decide, by decide⟩ rfl hl.1 rfl (Nat.le_of_ble_eq_true rfl) dL_does_203 (fun H locs hM => ?_)
                refine W.eq (g2 := F0 m 206 ls [.int q31.1, .int q1.1, .ref (B + r0)]) rfl ?_
                refine lv_sipush (v := 20000) hx hb dL_does_206 (by decide) ?_
                refine lv_isub hx hb dL_does_209 ?_
                obtain ⟨q32, eq32, h⟩ := bd_h h
                refine x_callV (As := [.int q1.1, .int (q31.1 - 20000)]) CX hM (kdl hk_r0 rfl) (ly6 hk_r0 _) rfl lk_L_54 (c_X6_warm l E B hk_r0 eq32) ⟨rfl, rfl, by decide, by decide⟩ rfl hl.1 rfl (Nat.le_of_ble_eq_true rfl) dL_does_210 (fun H locs hM => ?_)
                refine W.eq (g2 := F0 m 213 ls [.int q32.1]) rfl ?_
                obtain rfl := Option.some.inj h
                exact x_iret CX hr hlk hM rfl dL_does_213
              · replace h := if_h c30 h
                by_cases c33 : (x1 &&& 15) = 7
                · replace h := it_h c33 h
                  refine lv_tableIn (off := 202) (tgt := 214) hx hb dL_does_12 (by rw [c33]; decide) (by rw [c33]; decide) (by rw [c33]; decide) (by decide) ?_
                  refine lv_aload_n hx hb dL_does_214 rfl (lv_at hl 1 rfl) ?_
                  refine lv_iload_n hx hb dL_does_215 rfl (lv_at hl 0 rfl) ?_
                  obtain ⟨q34, eq34, h⟩ := bd_h h
                  refine x_callV (As := [.int q1.1]) CX hM (kdl hk_r0 rfl) (ly6 hk_r0 _) rfl lk_L_57 (c_X6_service l E B hk_r0 eq34) ⟨rfl, rfl, by decide, by decide⟩ rfl hl.1 rfl (Nat.le_of_ble_eq_true rfl) dL_does_216 (fun H locs hM => ?_)
                  refine W.eq (g2 := F0 m 219 ls [.int q34.1]) rfl ?_
                  obtain rfl := Option.some.inj h
                  exact x_iret CX hr hlk hM rfl dL_does_219
                · replace h := if_h c33 h
                  by_cases c35 : (x1 &&& 15) = 8
                  · replace h := it_h c35 h
                    refine lv_tableIn (off := 208) (tgt := 220) hx hb dL_does_12 (by rw [c35]; decide) (by rw [c35]; decide) (by rw [c35]; decide) (by decide) ?_
                    refine lv_aload_n hx hb dL_does_220 rfl (lv_at hl 1 rfl) ?_
                    refine lv_iload_n hx hb dL_does_221 rfl (lv_at hl 0 rfl) ?_
                    obtain ⟨q36, eq36, h⟩ := bd_h h
                    refine x_callV (As := [.int q1.1]) CX hM (kdl hk_r0 rfl) (ly6 hk_r0 _) rfl lk_L_60 (c_X6_resetCutout l E B hk_r0 eq36) ⟨rfl, rfl, by decide, by decide⟩ rfl hl.1 rfl (Nat.le_of_ble_eq_true rfl) dL_does_222 (fun H locs hM => ?_)
                    refine W.eq (g2 := F0 m 225 ls [.int q36.1]) rfl ?_
                    obtain rfl := Option.some.inj h
                    exact x_iret CX hr hlk hM rfl dL_does_225
                  · replace h := if_h c35 h
                    refine lv_tableOut (tgt := 226) hx hb dL_does_12 (tsw_out [0, 1, 2, 3, 4, 5, 6, 7, 8] (by decide) (by decide) (List.forall_mem_cons.mpr ⟨c2, (List.forall_mem_cons.mpr ⟨c8, (List.forall_mem_cons.mpr ⟨c14, (List.forall_mem_cons.mpr ⟨c18, (List.forall_mem_cons.mpr ⟨c22, (List.forall_mem_cons.mpr ⟨c26, (List.forall_mem_cons.mpr ⟨c30, (List.forall_mem_cons.mpr ⟨c33, (List.forall_mem_cons.mpr ⟨c35, (fun _ h => absurd h List.not_mem_nil)⟩)⟩)⟩)⟩)⟩)⟩)⟩)⟩)⟩)) (by decide) ?_
                    refine lv_aload_n hx hb dL_does_226 rfl (lv_at hl 1 rfl) ?_
                    refine lv_iload_n hx hb dL_does_227 rfl (lv_at hl 2 rfl) ?_
                    refine lv_bipush (v := 6) hx hb dL_does_228 (by decide) ?_
                    refine lv_ishr hx hb dL_does_230 ?_
                    refine lv_bipush (v := 40) hx hb dL_does_231 (by decide) ?_
                    obtain ⟨q37, eq37, h⟩ := bd_h h
                    refine x_callS (As := [.int (x1 >>> (6 &&& 31)), .int 40]) CX hM lk_L_34 (c_L_low l E B  eq37) ⟨rfl, rfl, by decide, by decide⟩ rfl hl.1 rfl (Nat.le_of_ble_eq_true rfl) dL_does_233 (fun H locs hM => ?_)
                    refine W.eq (g2 := F0 m 236 ls [.int q37.1, .ref (B + r0)]) rfl ?_
                    obtain ⟨q38, eq38, h⟩ := bd_h h
                    refine x_callV (As := [.int q37.1]) CX hM (kdl hk_r0 rfl) (ly6 hk_r0 _) rfl lk_L_63 (c_X6_pass l E B hk_r0 eq38) ⟨rfl, rfl, by decide, by decide⟩ rfl hl.1 rfl (Nat.le_of_ble_eq_true rfl) dL_does_236 (fun H locs hM => ?_)
                    refine W.eq (g2 := F0 m 239 ls [.int q38.1]) rfl ?_
                    obtain rfl := Option.some.inj h
                    exact x_iret CX hr hlk hM rfl dL_does_239
