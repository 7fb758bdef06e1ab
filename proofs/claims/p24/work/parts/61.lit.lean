/-! the reference's row s (cell 1): rooms as rows of 21 -/
theorem ix_eq (r f : Nat) : (70 + (21 * nI r)) + nI f = nI (70 + 21 * r + f) := by
  show (nI 70 + nI 21 * nI r) + nI f = _
  rw [pk_mul, nI_add, nI_add]
def vw (s : Nat → Int32) (r : Nat) : Nat → Int32 := fun f => s (70 + 21 * r + f)
def wrv (s : Nat → Int32) (r : Nat) (v : Nat → Int32) : Nat → Int32 := fun j => if 70 + 21 * r ≤ j ∧ j < 91 + 21 * r then v (j - (70 + 21 * r)) else s j
theorem wrv_in {s v : Nat → Int32} {r f : Nat} (hf : f < 21) : wrv s r v (70 + 21 * r + f) = v f := by
  unfold wrv
  rw [if_pos (by omega)]
  congr 1
  omega
theorem wrv_lo {s v : Nat → Int32} {r j : Nat} (hj : j < 70) : wrv s r v j = s j := by
  unfold wrv
  rw [if_neg (by omega)]
theorem wrv_ot {s v : Nat → Int32} {r r' f : Nat} (hf : f < 21) (h : r' ≠ r) : wrv s r v (70 + 21 * r' + f) = s (70 + 21 * r' + f) := by
  unfold wrv
  rw [if_neg (by omega)]
theorem wrv_upd {s v : Nat → Int32} {r f : Nat} {x : Int32} (hf : f < 21) : upd (wrv s r v) (70 + 21 * r + f) x = wrv s r (upd v f x) := by
  funext j
  simp only [wrv, upd]
  by_cases h : j = 70 + 21 * r + f
  · subst h
    rw [if_pos rfl, if_pos (by omega), if_pos (by omega)]
  · rw [if_neg h]
    by_cases h2 : 70 + 21 * r ≤ j ∧ j < 91 + 21 * r
    · rw [if_pos h2, if_pos h2, if_neg (by omega)]
    · rw [if_neg h2, if_neg h2]
theorem wrv_vw {s : Nat → Int32} {r : Nat} : wrv s r (vw s r) = s := by
  funext j
  unfold wrv vw
  by_cases h2 : 70 + 21 * r ≤ j ∧ j < 91 + 21 * r
  · rw [if_pos h2]; congr 1; omega
  · rw [if_neg h2]
theorem wrv_wrv {s v w : Nat → Int32} {r : Nat} : wrv (wrv s r v) r w = wrv s r w := by
  funext j
  unfold wrv
  by_cases h2 : 70 + 21 * r ≤ j ∧ j < 91 + 21 * r
  · rw [if_pos h2, if_pos h2]
  · rw [if_neg h2, if_neg h2, if_neg h2]
theorem vw_wrv {s v : Nat → Int32} {r f : Nat} (hf : f < 21) : vw (wrv s r v) r f = v f := wrv_in hf
theorem vw_ot {s v : Nat → Int32} {r r' f : Nat} (hf : f < 21) (h : r' ≠ r) : vw (wrv s r v) r' f = vw s r' f := wrv_ot hf h
/-- the reference, with room r's row in sight -/
def stm (τ : xM) (r : Nat) (v : Nat → Int32) : xM := upc τ 1 (wrv (τ 1) r v)
theorem stm_self {τ : xM} {r : Nat} : stm τ r (vw (τ 1) r) = τ := by unfold stm; rw [wrv_vw]; exact upc_self
theorem stm_1 {τ : xM} {r : Nat} {v : Nat → Int32} : stm τ r v 1 = wrv (τ 1) r v := upc_same
theorem stm_ne {τ : xM} {r i : Nat} {v : Nat → Int32} (h : i ≠ 1) : stm τ r v i = τ i := upc_ne h
theorem stm_lo {τ : xM} {r j : Nat} {v : Nat → Int32} (h : j < 70) : stm τ r v 1 j = τ 1 j := by rw [stm_1, wrv_lo h]
theorem stm_stm {τ : xM} {r : Nat} {v w : Nat → Int32} : stm (stm τ r v) r w = stm τ r w := by unfold stm; rw [upc_same, upc_upc, wrv_wrv]
theorem of_nI {τ : xM} {r f : Nat} (hr : r < 6) (hf : f < 21) : F_X7_of 0 (nI r) (nI f) τ = some (τ 1 (70 + 21 * r + f), τ) := by
  unfold F_X7_of
  rw [ix_eq, if_pos (inb_nI (by omega) (by omega)), cl_nI (by omega)]
theorem of_st {τ : xM} {r f : Nat} {v : Nat → Int32} (hr : r < 6) (hf : f < 21) : F_X7_of 0 (nI r) (nI f) (stm τ r v) = some (v f, stm τ r v) := by
  rw [of_nI hr hf, stm_1, wrv_in hf]
theorem puts_st {τ : xM} {r f : Nat} {v : Nat → Int32} {x : Int32} (hr : r < 6) (hf : f < 21) : F_X7_puts 0 (nI r) (nI f) x (stm τ r v) = some ((), stm τ r (upd v f x)) := by
  unfold F_X7_puts nm
  rw [ix_eq, if_pos (inb_nI (by omega) (by omega)), cl_nI (by omega)]
  show some ((), upc (stm τ r v) 1 (upd (stm τ r v 1) (70 + 21 * r + f) x)) = _
  rw [stm_1, wrv_upd hf]
  unfold stm
  rw [upc_upc]
theorem grows_st {τ : xM} {r f : Nat} {v : Nat → Int32} {x : Int32} (hr : r < 6) (hf : f < 21) : F_X7_grows 0 (nI r) (nI f) x (stm τ r v) = some ((), stm τ r (upd v f (v f + x))) := by
  unfold F_X7_grows nm
  rw [ix_eq, if_pos (inb_nI (by omega) (by omega)), if_pos (inb_nI (by omega) (by omega)), cl_nI (by omega)]
  show some ((), upc (stm τ r v) 1 (upd (stm τ r v 1) (70 + 21 * r + f) (stm τ r v 1 (70 + 21 * r + f) + x))) = _
  rw [stm_1, wrv_upd hf, wrv_in hf]
  unfold stm
  rw [upc_upc]
theorem of_st0 {τ : xM} {r : Nat} {v : Nat → Int32} (hr : r < 6) : F_X7_of 0 (nI r) 0 (stm τ r v) = some (v 0, stm τ r v) := of_st (f := 0) hr (by omega)
theorem puts_st0 {τ : xM} {r : Nat} {v : Nat → Int32} {x : Int32} (hr : r < 6) : F_X7_puts 0 (nI r) 0 x (stm τ r v) = some ((), stm τ r (upd v 0 x)) := puts_st (f := 0) hr (by omega)
theorem grows_st0 {τ : xM} {r : Nat} {v : Nat → Int32} {x : Int32} (hr : r < 6) : F_X7_grows 0 (nI r) 0 x (stm τ r v) = some ((), stm τ r (upd v 0 (v 0 + x))) := grows_st (f := 0) hr (by omega)
theorem of_st1 {τ : xM} {r : Nat} {v : Nat → Int32} (hr : r < 6) : F_X7_of 0 (nI r) 1 (stm τ r v) = some (v 1, stm τ r v) := of_st (f := 1) hr (by omega)
theorem puts_st1 {τ : xM} {r : Nat} {v : Nat → Int32} {x : Int32} (hr : r < 6) : F_X7_puts 0 (nI r) 1 x (stm τ r v) = some ((), stm τ r (upd v 1 x)) := puts_st (f := 1) hr (by omega)
theorem grows_st1 {τ : xM} {r : Nat} {v : Nat → Int32} {x : Int32} (hr : r < 6) : F_X7_grows 0 (nI r) 1 x (stm τ r v) = some ((), stm τ r (upd v 1 (v 1 + x))) := grows_st (f := 1) hr (by omega)
theorem of_st2 {τ : xM} {r : Nat} {v : Nat → Int32} (hr : r < 6) : F_X7_of 0 (nI r) 2 (stm τ r v) = some (v 2, stm τ r v) := of_st (f := 2) hr (by omega)
theorem puts_st2 {τ : xM} {r : Nat} {v : Nat → Int32} {x : Int32} (hr : r < 6) : F_X7_puts 0 (nI r) 2 x (stm τ r v) = some ((), stm τ r (upd v 2 x)) := puts_st (f := 2) hr (by omega)
theorem grows_st2 {τ : xM} {r : Nat} {v : Nat → Int32} {x : Int32} (hr : r < 6) : F_X7_grows 0 (nI r) 2 x (stm τ r v) = some ((), stm τ r (upd v 2 (v 2 + x))) := grows_st (f := 2) hr (by omega)
theorem of_st3 {τ : xM} {r : Nat} {v : Nat → Int32} (hr : r < 6) : F_X7_of 0 (nI r) 3 (stm τ r v) = some (v 3, stm τ r v) := of_st (f := 3) hr (by omega)
theorem puts_st3 {τ : xM} {r : Nat} {v : Nat → Int32} {x : Int32} (hr : r < 6) : F_X7_puts 0 (nI r) 3 x (stm τ r v) = some ((), stm τ r (upd v 3 x)) := puts_st (f := 3) hr (by omega)
theorem grows_st3 {τ : xM} {r : Nat} {v : Nat → Int32} {x : Int32} (hr : r < 6) : F_X7_grows 0 (nI r) 3 x (stm τ r v) = some ((), stm τ r (upd v 3 (v 3 + x))) := grows_st (f := 3) hr (by omega)
theorem of_st4 {τ : xM} {r : Nat} {v : Nat → Int32} (hr : r < 6) : F_X7_of 0 (nI r) 4 (stm τ r v) = some (v 4, stm τ r v) := of_st (f := 4) hr (by omega)
theorem puts_st4 {τ : xM} {r : Nat} {v : Nat → Int32} {x : Int32} (hr : r < 6) : F_X7_puts 0 (nI r) 4 x (stm τ r v) = some ((), stm τ r (upd v 4 x)) := puts_st (f := 4) hr (by omega)
theorem grows_st4 {τ : xM} {r : Nat} {v : Nat → Int32} {x : Int32} (hr : r < 6) : F_X7_grows 0 (nI r) 4 x (stm τ r v) = some ((), stm τ r (upd v 4 (v 4 + x))) := grows_st (f := 4) hr (by omega)
theorem of_st5 {τ : xM} {r : Nat} {v : Nat → Int32} (hr : r < 6) : F_X7_of 0 (nI r) 5 (stm τ r v) = some (v 5, stm τ r v) := of_st (f := 5) hr (by omega)
theorem puts_st5 {τ : xM} {r : Nat} {v : Nat → Int32} {x : Int32} (hr : r < 6) : F_X7_puts 0 (nI r) 5 x (stm τ r v) = some ((), stm τ r (upd v 5 x)) := puts_st (f := 5) hr (by omega)
theorem grows_st5 {τ : xM} {r : Nat} {v : Nat → Int32} {x : Int32} (hr : r < 6) : F_X7_grows 0 (nI r) 5 x (stm τ r v) = some ((), stm τ r (upd v 5 (v 5 + x))) := grows_st (f := 5) hr (by omega)
theorem of_st6 {τ : xM} {r : Nat} {v : Nat → Int32} (hr : r < 6) : F_X7_of 0 (nI r) 6 (stm τ r v) = some (v 6, stm τ r v) := of_st (f := 6) hr (by omega)
theorem puts_st6 {τ : xM} {r : Nat} {v : Nat → Int32} {x : Int32} (hr : r < 6) : F_X7_puts 0 (nI r) 6 x (stm τ r v) = some ((), stm τ r (upd v 6 x)) := puts_st (f := 6) hr (by omega)
theorem grows_st6 {τ : xM} {r : Nat} {v : Nat → Int32} {x : Int32} (hr : r < 6) : F_X7_grows 0 (nI r) 6 x (stm τ r v) = some ((), stm τ r (upd v 6 (v 6 + x))) := grows_st (f := 6) hr (by omega)
theorem of_st7 {τ : xM} {r : Nat} {v : Nat → Int32} (hr : r < 6) : F_X7_of 0 (nI r) 7 (stm τ r v) = some (v 7, stm τ r v) := of_st (f := 7) hr (by omega)
theorem puts_st7 {τ : xM} {r : Nat} {v : Nat → Int32} {x : Int32} (hr : r < 6) : F_X7_puts 0 (nI r) 7 x (stm τ r v) = some ((), stm τ r (upd v 7 x)) := puts_st (f := 7) hr (by omega)
theorem grows_st7 {τ : xM} {r : Nat} {v : Nat → Int32} {x : Int32} (hr : r < 6) : F_X7_grows 0 (nI r) 7 x (stm τ r v) = some ((), stm τ r (upd v 7 (v 7 + x))) := grows_st (f := 7) hr (by omega)
theorem of_st8 {τ : xM} {r : Nat} {v : Nat → Int32} (hr : r < 6) : F_X7_of 0 (nI r) 8 (stm τ r v) = some (v 8, stm τ r v) := of_st (f := 8) hr (by omega)
theorem puts_st8 {τ : xM} {r : Nat} {v : Nat → Int32} {x : Int32} (hr : r < 6) : F_X7_puts 0 (nI r) 8 x (stm τ r v) = some ((), stm τ r (upd v 8 x)) := puts_st (f := 8) hr (by omega)
theorem grows_st8 {τ : xM} {r : Nat} {v : Nat → Int32} {x : Int32} (hr : r < 6) : F_X7_grows 0 (nI r) 8 x (stm τ r v) = some ((), stm τ r (upd v 8 (v 8 + x))) := grows_st (f := 8) hr (by omega)
theorem of_st9 {τ : xM} {r : Nat} {v : Nat → Int32} (hr : r < 6) : F_X7_of 0 (nI r) 9 (stm τ r v) = some (v 9, stm τ r v) := of_st (f := 9) hr (by omega)
theorem puts_st9 {τ : xM} {r : Nat} {v : Nat → Int32} {x : Int32} (hr : r < 6) : F_X7_puts 0 (nI r) 9 x (stm τ r v) = some ((), stm τ r (upd v 9 x)) := puts_st (f := 9) hr (by omega)
theorem grows_st9 {τ : xM} {r : Nat} {v : Nat → Int32} {x : Int32} (hr : r < 6) : F_X7_grows 0 (nI r) 9 x (stm τ r v) = some ((), stm τ r (upd v 9 (v 9 + x))) := grows_st (f := 9) hr (by omega)
theorem of_st10 {τ : xM} {r : Nat} {v : Nat → Int32} (hr : r < 6) : F_X7_of 0 (nI r) 10 (stm τ r v) = some (v 10, stm τ r v) := of_st (f := 10) hr (by omega)
theorem puts_st10 {τ : xM} {r : Nat} {v : Nat → Int32} {x : Int32} (hr : r < 6) : F_X7_puts 0 (nI r) 10 x (stm τ r v) = some ((), stm τ r (upd v 10 x)) := puts_st (f := 10) hr (by omega)
theorem grows_st10 {τ : xM} {r : Nat} {v : Nat → Int32} {x : Int32} (hr : r < 6) : F_X7_grows 0 (nI r) 10 x (stm τ r v) = some ((), stm τ r (upd v 10 (v 10 + x))) := grows_st (f := 10) hr (by omega)
theorem of_st11 {τ : xM} {r : Nat} {v : Nat → Int32} (hr : r < 6) : F_X7_of 0 (nI r) 11 (stm τ r v) = some (v 11, stm τ r v) := of_st (f := 11) hr (by omega)
theorem puts_st11 {τ : xM} {r : Nat} {v : Nat → Int32} {x : Int32} (hr : r < 6) : F_X7_puts 0 (nI r) 11 x (stm τ r v) = some ((), stm τ r (upd v 11 x)) := puts_st (f := 11) hr (by omega)
theorem grows_st11 {τ : xM} {r : Nat} {v : Nat → Int32} {x : Int32} (hr : r < 6) : F_X7_grows 0 (nI r) 11 x (stm τ r v) = some ((), stm τ r (upd v 11 (v 11 + x))) := grows_st (f := 11) hr (by omega)
theorem of_st12 {τ : xM} {r : Nat} {v : Nat → Int32} (hr : r < 6) : F_X7_of 0 (nI r) 12 (stm τ r v) = some (v 12, stm τ r v) := of_st (f := 12) hr (by omega)
theorem puts_st12 {τ : xM} {r : Nat} {v : Nat → Int32} {x : Int32} (hr : r < 6) : F_X7_puts 0 (nI r) 12 x (stm τ r v) = some ((), stm τ r (upd v 12 x)) := puts_st (f := 12) hr (by omega)
theorem grows_st12 {τ : xM} {r : Nat} {v : Nat → Int32} {x : Int32} (hr : r < 6) : F_X7_grows 0 (nI r) 12 x (stm τ r v) = some ((), stm τ r (upd v 12 (v 12 + x))) := grows_st (f := 12) hr (by omega)
theorem of_st13 {τ : xM} {r : Nat} {v : Nat → Int32} (hr : r < 6) : F_X7_of 0 (nI r) 13 (stm τ r v) = some (v 13, stm τ r v) := of_st (f := 13) hr (by omega)
theorem puts_st13 {τ : xM} {r : Nat} {v : Nat → Int32} {x : Int32} (hr : r < 6) : F_X7_puts 0 (nI r) 13 x (stm τ r v) = some ((), stm τ r (upd v 13 x)) := puts_st (f := 13) hr (by omega)
theorem grows_st13 {τ : xM} {r : Nat} {v : Nat → Int32} {x : Int32} (hr : r < 6) : F_X7_grows 0 (nI r) 13 x (stm τ r v) = some ((), stm τ r (upd v 13 (v 13 + x))) := grows_st (f := 13) hr (by omega)
theorem of_st14 {τ : xM} {r : Nat} {v : Nat → Int32} (hr : r < 6) : F_X7_of 0 (nI r) 14 (stm τ r v) = some (v 14, stm τ r v) := of_st (f := 14) hr (by omega)
theorem puts_st14 {τ : xM} {r : Nat} {v : Nat → Int32} {x : Int32} (hr : r < 6) : F_X7_puts 0 (nI r) 14 x (stm τ r v) = some ((), stm τ r (upd v 14 x)) := puts_st (f := 14) hr (by omega)
theorem grows_st14 {τ : xM} {r : Nat} {v : Nat → Int32} {x : Int32} (hr : r < 6) : F_X7_grows 0 (nI r) 14 x (stm τ r v) = some ((), stm τ r (upd v 14 (v 14 + x))) := grows_st (f := 14) hr (by omega)
theorem of_st15 {τ : xM} {r : Nat} {v : Nat → Int32} (hr : r < 6) : F_X7_of 0 (nI r) 15 (stm τ r v) = some (v 15, stm τ r v) := of_st (f := 15) hr (by omega)
theorem puts_st15 {τ : xM} {r : Nat} {v : Nat → Int32} {x : Int32} (hr : r < 6) : F_X7_puts 0 (nI r) 15 x (stm τ r v) = some ((), stm τ r (upd v 15 x)) := puts_st (f := 15) hr (by omega)
theorem grows_st15 {τ : xM} {r : Nat} {v : Nat → Int32} {x : Int32} (hr : r < 6) : F_X7_grows 0 (nI r) 15 x (stm τ r v) = some ((), stm τ r (upd v 15 (v 15 + x))) := grows_st (f := 15) hr (by omega)
theorem of_st16 {τ : xM} {r : Nat} {v : Nat → Int32} (hr : r < 6) : F_X7_of 0 (nI r) 16 (stm τ r v) = some (v 16, stm τ r v) := of_st (f := 16) hr (by omega)
theorem puts_st16 {τ : xM} {r : Nat} {v : Nat → Int32} {x : Int32} (hr : r < 6) : F_X7_puts 0 (nI r) 16 x (stm τ r v) = some ((), stm τ r (upd v 16 x)) := puts_st (f := 16) hr (by omega)
theorem grows_st16 {τ : xM} {r : Nat} {v : Nat → Int32} {x : Int32} (hr : r < 6) : F_X7_grows 0 (nI r) 16 x (stm τ r v) = some ((), stm τ r (upd v 16 (v 16 + x))) := grows_st (f := 16) hr (by omega)
theorem of_st17 {τ : xM} {r : Nat} {v : Nat → Int32} (hr : r < 6) : F_X7_of 0 (nI r) 17 (stm τ r v) = some (v 17, stm τ r v) := of_st (f := 17) hr (by omega)
theorem puts_st17 {τ : xM} {r : Nat} {v : Nat → Int32} {x : Int32} (hr : r < 6) : F_X7_puts 0 (nI r) 17 x (stm τ r v) = some ((), stm τ r (upd v 17 x)) := puts_st (f := 17) hr (by omega)
theorem grows_st17 {τ : xM} {r : Nat} {v : Nat → Int32} {x : Int32} (hr : r < 6) : F_X7_grows 0 (nI r) 17 x (stm τ r v) = some ((), stm τ r (upd v 17 (v 17 + x))) := grows_st (f := 17) hr (by omega)
theorem of_st18 {τ : xM} {r : Nat} {v : Nat → Int32} (hr : r < 6) : F_X7_of 0 (nI r) 18 (stm τ r v) = some (v 18, stm τ r v) := of_st (f := 18) hr (by omega)
theorem puts_st18 {τ : xM} {r : Nat} {v : Nat → Int32} {x : Int32} (hr : r < 6) : F_X7_puts 0 (nI r) 18 x (stm τ r v) = some ((), stm τ r (upd v 18 x)) := puts_st (f := 18) hr (by omega)
theorem grows_st18 {τ : xM} {r : Nat} {v : Nat → Int32} {x : Int32} (hr : r < 6) : F_X7_grows 0 (nI r) 18 x (stm τ r v) = some ((), stm τ r (upd v 18 (v 18 + x))) := grows_st (f := 18) hr (by omega)
theorem of_st19 {τ : xM} {r : Nat} {v : Nat → Int32} (hr : r < 6) : F_X7_of 0 (nI r) 19 (stm τ r v) = some (v 19, stm τ r v) := of_st (f := 19) hr (by omega)
theorem puts_st19 {τ : xM} {r : Nat} {v : Nat → Int32} {x : Int32} (hr : r < 6) : F_X7_puts 0 (nI r) 19 x (stm τ r v) = some ((), stm τ r (upd v 19 x)) := puts_st (f := 19) hr (by omega)
theorem grows_st19 {τ : xM} {r : Nat} {v : Nat → Int32} {x : Int32} (hr : r < 6) : F_X7_grows 0 (nI r) 19 x (stm τ r v) = some ((), stm τ r (upd v 19 (v 19 + x))) := grows_st (f := 19) hr (by omega)
theorem of_st20 {τ : xM} {r : Nat} {v : Nat → Int32} (hr : r < 6) : F_X7_of 0 (nI r) 20 (stm τ r v) = some (v 20, stm τ r v) := of_st (f := 20) hr (by omega)
theorem puts_st20 {τ : xM} {r : Nat} {v : Nat → Int32} {x : Int32} (hr : r < 6) : F_X7_puts 0 (nI r) 20 x (stm τ r v) = some ((), stm τ r (upd v 20 x)) := puts_st (f := 20) hr (by omega)
theorem grows_st20 {τ : xM} {r : Nat} {v : Nat → Int32} {x : Int32} (hr : r < 6) : F_X7_grows 0 (nI r) 20 x (stm τ r v) = some ((), stm τ r (upd v 20 (v 20 + x))) := grows_st (f := 20) hr (by omega)
theorem inl0 : inb 0 196 := by decide
theorem inl1 : inb 1 196 := by decide
theorem inl2 : inb 2 196 := by decide
theorem inl3 : inb 3 196 := by decide
theorem inl4 : inb 4 196 := by decide
theorem inl5 : inb 5 196 := by decide
theorem inl6 : inb 6 196 := by decide
theorem inl7 : inb 7 196 := by decide
theorem inl8 : inb 8 196 := by decide
theorem inl9 : inb 9 196 := by decide
theorem inl10 : inb 10 196 := by decide
theorem cll0 : Int32.toNatClampNeg 0 = 0 := rfl
theorem cll1 : Int32.toNatClampNeg 1 = 1 := rfl
theorem cll2 : Int32.toNatClampNeg 2 = 2 := rfl
theorem cll3 : Int32.toNatClampNeg 3 = 3 := rfl
theorem cll4 : Int32.toNatClampNeg 4 = 4 := rfl
theorem cll5 : Int32.toNatClampNeg 5 = 5 := rfl
theorem cll6 : Int32.toNatClampNeg 6 = 6 := rfl
theorem cll7 : Int32.toNatClampNeg 7 = 7 := rfl
theorem cll8 : Int32.toNatClampNeg 8 = 8 := rfl
theorem cll9 : Int32.toNatClampNeg 9 = 9 := rfl
theorem cll10 : Int32.toNatClampNeg 10 = 10 := rfl
theorem cll11 : Int32.toNatClampNeg 11 = 11 := rfl
theorem cll12 : Int32.toNatClampNeg 12 = 12 := rfl
