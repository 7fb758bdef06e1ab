def F_X7_in (x0 : Int32) (x1 : Int32) (x2 : Int32) (σ : xM) : Option (Int32 × xM) :=
  if x0 < x1 then
  some (0, σ)
  else
  if x2 < x0 then
  some (0, σ)
  else
  some (1, σ)
def F_X7_notes_L52 (k : Nat) : Nat → Int32 → xM → Option (Unit × xM)
  | 0, _, _ => none
  | N + 1, x1, σ =>
    if 196 ≤ x1 then
    nm (xup σ k 2 ((σ k 2) + 1)) (fun σ3 =>
    some ((), σ3))
    else
    if inb x1 196 then
    if inb ((196 * (σ k 2)) + x1) 1176 then
    nm (xup σ (k + 2) (Int32.toNatClampNeg ((196 * (σ k 2)) + x1)) (σ (k + 1) (Int32.toNatClampNeg x1))) (fun σ6 =>
    F_X7_notes_L52 k N (x1 + 1) σ6)
    else none
    else none
def F_X7_notes_J50 (k : Nat)  (σ : xM) : Option (Unit × xM) :=
  F_X7_notes_L52 k FU 0 σ
def F_X7_notes_L11 (k : Nat) : Nat → Int32 → xM → Option (Unit × xM)
  | 0, _, _ => none
  | N + 1, x1, σ =>
    if 980 ≤ x1 then
    nm (xup σ k 2 ((σ k 2) - 1)) (fun σ8 =>
    F_X7_notes_J50 k  σ8)
    else
    if inb (x1 + 196) 1176 then
    if inb x1 1176 then
    nm (xup σ (k + 2) (Int32.toNatClampNeg x1) (σ (k + 2) (Int32.toNatClampNeg (x1 + 196)))) (fun σ11 =>
    F_X7_notes_L11 k N (x1 + 1) σ11)
    else none
    else none
def F_X7_notes (k : Nat) (σ : xM) : Option (Unit × xM) :=
  if (σ k 2) = 6 then
  F_X7_notes_L11 k FU 0 σ
  else
  F_X7_notes_J50 k  σ
def F_X7_undo_L22 (k : Nat) : Nat → Int32 → xM → Option (Int32 × xM)
  | 0, _, _ => none
  | N + 1, x1, σ =>
    if 196 ≤ x1 then
    some ((σ k 2), σ)
    else
    if inb ((196 * (σ k 2)) + x1) 1176 then
    if inb x1 196 then
    nm (xup σ (k + 1) (Int32.toNatClampNeg x1) (σ (k + 2) (Int32.toNatClampNeg ((196 * (σ k 2)) + x1)))) (fun σ6 =>
    F_X7_undo_L22 k N (x1 + 1) σ6)
    else none
    else none
def F_X7_undo (k : Nat) (σ : xM) : Option (Int32 × xM) :=
  if (σ k 2) = 0 then
  some ((-1000002), σ)
  else
  nm (xup σ k 2 ((σ k 2) - 1)) (fun σ2 =>
  F_X7_undo_L22 k FU 0 σ2)
def F_X7_isRoom (k : Nat) (x1 : Int32) (σ : xM) : Option (Int32 × xM) :=
  if inb 7 196 then
  (F_X7_in x1 0 ((σ (k + 1) (Int32.toNatClampNeg 7)) - 1) σ).bind (fun q2 =>
  some (q2.1, q2.2))
  else none
def F_X7_of (k : Nat) (x1 : Int32) (x2 : Int32) (σ : xM) : Option (Int32 × xM) :=
  if inb ((70 + (21 * x1)) + x2) 196 then
  some ((σ (k + 1) (Int32.toNatClampNeg ((70 + (21 * x1)) + x2))), σ)
  else none
def F_X7_puts (k : Nat) (x1 : Int32) (x2 : Int32) (x3 : Int32) (σ : xM) : Option (Unit × xM) :=
  if inb ((70 + (21 * x1)) + x2) 196 then
  nm (xup σ (k + 1) (Int32.toNatClampNeg ((70 + (21 * x1)) + x2)) x3) (fun σ2 =>
  some ((), σ2))
  else none
def F_X7_grows (k : Nat) (x1 : Int32) (x2 : Int32) (x3 : Int32) (σ : xM) : Option (Unit × xM) :=
  if inb ((70 + (21 * x1)) + x2) 196 then
  if inb ((70 + (21 * x1)) + x2) 196 then
  nm (xup σ (k + 1) (Int32.toNatClampNeg ((70 + (21 * x1)) + x2)) ((σ (k + 1) (Int32.toNatClampNeg ((70 + (21 * x1)) + x2))) + x3)) (fun σ3 =>
  some ((), σ3))
  else none
  else none
def F_X7_degrees (x0 : Int32) (x1 : Int32) (σ : xM) : Option (Int32 × xM) :=
  nm (1000 * x0) (fun x2_1 =>
  if 0 ≤ x2_1 then
  if x1 = 0 then none else
  some ((x2_1 / x1), σ)
  else
  if x1 = 0 then none else
  if (x2_1 - x2_1 / x1 * x1) = 0 then
  if x1 = 0 then none else
  some ((x2_1 / x1), σ)
  else
  if x1 = 0 then none else
  some (((x2_1 / x1) - 1), σ))
def F_X7_temperature (k : Nat) (x1 : Int32) (σ : xM) : Option (Int32 × xM) :=
  (F_X7_of k x1 1 σ).bind (fun q1 =>
  (F_X7_of k x1 0 q1.2).bind (fun q2 =>
  (F_X7_degrees q1.1 q2.1 q2.2).bind (fun q3 =>
  some (q3.1, q3.2))))
def F_X7_addRoom_J57 (k : Nat) (x1 : Int32) (x2 : Int32) (x3 : Int32) (x4 : Int32) (y0 : Int32) (σ : xM) : Option (Int32 × xM) :=
  if y0 = 0 then
  some ((-1000001), σ)
  else
  if inb 7 196 then
  if (σ (k + 1) (Int32.toNatClampNeg 7)) = 6 then
  some ((-1000003), σ)
  else
  (F_X7_notes k σ).bind (fun q6 =>
  if inb 7 196 then
  nm (q6.2 (k + 1) (Int32.toNatClampNeg 7)) (fun x6_8 =>
  if inb 7 196 then
  if inb 7 196 then
  nm (xup q6.2 (k + 1) (Int32.toNatClampNeg 7) ((q6.2 (k + 1) (Int32.toNatClampNeg 7)) + 1)) (fun σ11 =>
  (F_X7_puts k x6_8 0 x1 σ11).bind (fun q12 =>
  (F_X7_puts k x6_8 1 (x1 * x4) q12.2).bind (fun q13 =>
  (F_X7_puts k x6_8 2 x2 q13.2).bind (fun q14 =>
  (F_X7_puts k x6_8 3 x3 q14.2).bind (fun q15 =>
  (F_X7_puts k x6_8 4 20000 q15.2).bind (fun q16 =>
  (F_X7_puts k x6_8 5 1000 q16.2).bind (fun q17 =>
  (F_X7_puts k x6_8 6 (1000 * x4) q17.2).bind (fun q18 =>
  (F_X7_puts k x6_8 15 (-1000009) q18.2).bind (fun q19 =>
  (F_X7_puts k x6_8 16 (x1 * x4) q19.2).bind (fun q20 =>
  some (x6_8, q20.2)))))))))))
  else none
  else none)
  else none)
  else none
def F_X7_addRoom_J56 (k : Nat) (x1 : Int32) (x2 : Int32) (x3 : Int32) (x4 : Int32) (σ : xM) : Option (Int32 × xM) :=
  F_X7_addRoom_J57 k x1 x2 x3 x4 0 σ
def F_X7_addRoom (k : Nat) (x1 : Int32) (x2 : Int32) (x3 : Int32) (x4 : Int32) (σ : xM) : Option (Int32 × xM) :=
  (F_X7_in x1 10 500 σ).bind (fun q1 =>
  if (bz q1.1) = 0 then
  F_X7_addRoom_J56 k x1 x2 x3 x4 q1.2
  else
  (F_X7_in x2 1 200 q1.2).bind (fun q21 =>
  if (bz q21.1) = 0 then
  F_X7_addRoom_J56 k x1 x2 x3 x4 q21.2
  else
  (F_X7_in x3 0 50 q21.2).bind (fun q23 =>
  if (bz q23.1) = 0 then
  F_X7_addRoom_J56 k x1 x2 x3 x4 q23.2
  else
  if x1 < (2 * x3) then
  F_X7_addRoom_J56 k x1 x2 x3 x4 q23.2
  else
  (F_X7_in x4 (-40) 40 q23.2).bind (fun q26 =>
  if (bz q26.1) = 0 then
  F_X7_addRoom_J56 k x1 x2 x3 x4 q26.2
  else
  F_X7_addRoom_J57 k x1 x2 x3 x4 1 q26.2))))
def F_X7_areRooms (k : Nat) (x1 : Int32) (x2 : Int32) (σ : xM) : Option (Int32 × xM) :=
  (F_X7_isRoom k x1 σ).bind (fun q1 =>
  if (bz q1.1) = 0 then
  some (0, q1.2)
  else
  (F_X7_isRoom k x2 q1.2).bind (fun q3 =>
  if (bz q3.1) = 0 then
  some (0, q3.2)
  else
  if x1 = x2 then
  some (0, q3.2)
  else
  some (1, q3.2)))
def F_X7_drain_L9 (k : Nat) : Nat → Int32 → Int32 → Int32 → xM → Option (Int32 × xM)
  | 0, _, _, _, _ => none
  | N + 1, x1, x2, x3, σ =>
    if 6 ≤ x3 then
    some (x2, σ)
    else
    if inb ((34 + (6 * x1)) + x3) 196 then
    nm (x2 + (σ (k + 1) (Int32.toNatClampNeg ((34 + (6 * x1)) + x3)))) (fun x2_4 =>
    F_X7_drain_L9 k N x1 x2_4 (x3 + 1) σ)
    else none
def F_X7_drain (k : Nat) (x1 : Int32) (σ : xM) : Option (Int32 × xM) :=
  (F_X7_of k x1 3 σ).bind (fun q1 =>
  F_X7_drain_L9 k FU x1 q1.1 0 q1.2)
def F_X7_isTooMuch (k : Nat) (x1 : Int32) (x2 : Int32) (σ : xM) : Option (Int32 × xM) :=
  (F_X7_drain k x1 σ).bind (fun q1 =>
  (F_X7_of k x1 0 q1.2).bind (fun q2 =>
  if (2 * (q1.1 + x2)) ≤ q2.1 then
  some (0, q2.2)
  else
  some (1, q2.2)))
def F_X7_setLink (k : Nat) (x1 : Int32) (x2 : Int32) (x3 : Int32) (σ : xM) : Option (Int32 × xM) :=
  (F_X7_areRooms k x1 x2 σ).bind (fun q1 =>
  if (bz q1.1) = 0 then
  some ((-1000001), q1.2)
  else
  (F_X7_in x3 0 50 q1.2).bind (fun q3 =>
  if (bz q3.1) = 0 then
  some ((-1000001), q3.2)
  else
  if inb ((34 + (6 * x1)) + x2) 196 then
  nm (q3.2 (k + 1) (Int32.toNatClampNeg ((34 + (6 * x1)) + x2))) (fun x4_6 =>
  (F_X7_isTooMuch k x1 (x3 - x4_6) q3.2).bind (fun q7 =>
  if (bz q7.1) = 0 then
  (F_X7_isTooMuch k x2 (x3 - x4_6) q7.2).bind (fun q9 =>
  if (bz q9.1) = 0 then
  (F_X7_notes k q9.2).bind (fun q11 =>
  if inb ((34 + (6 * x1)) + x2) 196 then
  nm (xup q11.2 (k + 1) (Int32.toNatClampNeg ((34 + (6 * x1)) + x2)) x3) (fun σ13 =>
  if inb ((34 + (6 * x2)) + x1) 196 then
  nm (xup σ13 (k + 1) (Int32.toNatClampNeg ((34 + (6 * x2)) + x1)) x3) (fun σ15 =>
  some (x4_6, σ15))
  else none)
  else none)
  else
  some ((-1000002), q9.2))
  else
  some ((-1000002), q7.2)))
  else none))
def F_X7_link (k : Nat) (x1 : Int32) (x2 : Int32) (σ : xM) : Option (Int32 × xM) :=
  (F_X7_areRooms k x1 x2 σ).bind (fun q1 =>
  if (bz q1.1) = 0 then
  some ((-1000001), q1.2)
  else
  if inb ((34 + (6 * x1)) + x2) 196 then
  some ((q1.2 (k + 1) (Int32.toNatClampNeg ((34 + (6 * x1)) + x2))), q1.2)
  else none)
def F_X7_setThermostat_J64 (k : Nat) (x1 : Int32) (x2 : Int32) (x3 : Int32) (y0 : Int32) (σ : xM) : Option (Int32 × xM) :=
  (F_X7_puts k x1 4 x2 σ).bind (fun q10 =>
  (F_X7_puts k x1 5 x3 q10.2).bind (fun q11 =>
  if y0 = 0 then
  some (1, q11.2)
  else
  some (0, q11.2)))
def F_X7_setThermostat_J63 (k : Nat) (x1 : Int32) (x2 : Int32) (x3 : Int32) (σ : xM) : Option (Int32 × xM) :=
  F_X7_setThermostat_J64 k x1 x2 x3 0 σ
def F_X7_setThermostat (k : Nat) (x1 : Int32) (x2 : Int32) (x3 : Int32) (σ : xM) : Option (Int32 × xM) :=
  (F_X7_isRoom k x1 σ).bind (fun q1 =>
  if (bz q1.1) = 0 then
  some ((-1000001), q1.2)
  else
  (F_X7_in x2 5000 35000 q1.2).bind (fun q3 =>
  if (bz q3.1) = 0 then
  some ((-1000001), q3.2)
  else
  (F_X7_in x3 100 5000 q3.2).bind (fun q5 =>
  if (bz q5.1) = 0 then
  some ((-1000001), q5.2)
  else
  (F_X7_notes k q5.2).bind (fun q7 =>
  (F_X7_of k x1 4 q7.2).bind (fun q8 =>
  if q8.1 = x2 then
  (F_X7_of k x1 5 q8.2).bind (fun q13 =>
  if q13.1 = x3 then
  F_X7_setThermostat_J64 k x1 x2 x3 1 q13.2
  else
  F_X7_setThermostat_J63 k x1 x2 x3 q13.2)
  else
  F_X7_setThermostat_J63 k x1 x2 x3 q8.2)))))
def F_X7_isNumber (x0 : Int32) (x1 : Int32) (σ : xM) : Option (Int32 × xM) :=
  if x0 = 0 then
  (F_X7_in x1 1 100 σ).bind (fun q2 =>
  some (q2.1, q2.2))
  else if x0 = 1 then
  (F_X7_in x1 1 9999 σ).bind (fun q4 =>
  some (q4.1, q4.2))
  else if x0 = 2 then
  (F_X7_in x1 1 50 σ).bind (fun q6 =>
  some (q6.1, q6.2))
  else if x0 = 3 then
  (F_X7_in x1 0 120 σ).bind (fun q8 =>
  some (q8.1, q8.2))
  else if x0 = 4 then
  (F_X7_in x1 0 100 σ).bind (fun q10 =>
  some (q10.1, q10.2))
  else if x0 = 5 then
  (F_X7_in x1 20000 90000 σ).bind (fun q12 =>
  some (q12.1, q12.2))
  else if x0 = 6 then
  (F_X7_in x1 1 120 σ).bind (fun q14 =>
  some (q14.1, q14.2))
  else 
  some (0, σ)
def F_X7_setNumber (k : Nat) (x1 : Int32) (x2 : Int32) (σ : xM) : Option (Int32 × xM) :=
  (F_X7_isNumber x1 x2 σ).bind (fun q1 =>
  if (bz q1.1) = 0 then
  some ((-1000001), q1.2)
  else
  (F_X7_notes k q1.2).bind (fun q3 =>
  if inb x1 196 then
  nm (q3.2 (k + 1) (Int32.toNatClampNeg x1)) (fun x3_5 =>
  if inb x1 196 then
  nm (xup q3.2 (k + 1) (Int32.toNatClampNeg x1) x2) (fun σ7 =>
  some (x3_5, σ7))
  else none)
  else none))
def F_X7_warm_J81 (k : Nat) (x1 : Int32) (x2 : Int32) (σ : xM) : Option (Int32 × xM) :=
  (F_X7_notes k σ).bind (fun q11 =>
  (F_X7_grows k x1 1 x2 q11.2).bind (fun q12 =>
  (F_X7_grows k x1 20 x2 q12.2).bind (fun q13 =>
  (F_X7_temperature k x1 q13.2).bind (fun q14 =>
  some (q14.1, q14.2)))))
def F_X7_warm (k : Nat) (x1 : Int32) (x2 : Int32) (σ : xM) : Option (Int32 × xM) :=
  (F_X7_isRoom k x1 σ).bind (fun q1 =>
  if (bz q1.1) = 0 then
  some ((-1000001), q1.2)
  else
  (F_X7_in x2 (-50000) 50000 q1.2).bind (fun q3 =>
  if (bz q3.1) = 0 then
  some ((-1000001), q3.2)
  else
  (F_X7_of k x1 0 q3.2).bind (fun q5 =>
  nm (200 * ((q5.1).toInt64)) (fun j3_6 =>
  (F_X7_of k x1 1 q5.2).bind (fun q7 =>
  nm (((q7.1).toInt64) + ((x2).toInt64)) (fun j5_8 =>
  if (lg_cmp j5_8 (-j3_6)) < 0 then
  some ((-1000002), q7.2)
  else
  if (lg_cmp j5_8 j3_6) < 0 then
  F_X7_warm_J81 k x1 x2 q7.2
  else
  (F_X7_of k x1 0 q7.2).bind (fun q15 =>
  (F_X7_degrees ((j5_8).toInt32) q15.1 q15.2).bind (fun q16 =>
  if q16.1 ≤ 200000 then
  F_X7_warm_J81 k x1 x2 q16.2
  else
  some ((-1000002), q16.2)))))))))
def F_X7_service (k : Nat) (x1 : Int32) (σ : xM) : Option (Int32 × xM) :=
  (F_X7_isRoom k x1 σ).bind (fun q1 =>
  if (bz q1.1) = 0 then
  some ((-1000001), q1.2)
  else
  (F_X7_notes k q1.2).bind (fun q3 =>
  (F_X7_of k x1 9 q3.2).bind (fun q4 =>
  (F_X7_puts k x1 9 0 q4.2).bind (fun q5 =>
  (F_X7_puts k x1 10 0 q5.2).bind (fun q6 =>
  (F_X7_puts k x1 8 0 q6.2).bind (fun q7 =>
  (F_X7_puts k x1 7 0 q7.2).bind (fun q8 =>
  some (q4.1, q8.2))))))))
def F_X7_resetCutout (k : Nat) (x1 : Int32) (σ : xM) : Option (Int32 × xM) :=
  (F_X7_isRoom k x1 σ).bind (fun q1 =>
  if (bz q1.1) = 0 then
  some ((-1000001), q1.2)
  else
  (F_X7_of k x1 14 q1.2).bind (fun q3 =>
  if q3.1 = 0 then
  some ((-1000002), q3.2)
  else
  (F_X7_temperature k x1 q3.2).bind (fun q5 =>
  if inb 5 196 then
  if q5.1 ≤ (q5.2 (k + 1) (Int32.toNatClampNeg 5)) then
  (F_X7_notes k q5.2).bind (fun q8 =>
  (F_X7_puts k x1 14 0 q8.2).bind (fun q9 =>
  (F_X7_temperature k x1 q9.2).bind (fun q10 =>
  some (q10.1, q10.2))))
  else
  some ((-1000002), q5.2)
  else none)))
def F_X7_room (k : Nat) (x1 : Int32) (x2 : Int32) (σ : xM) : Option (Int32 × xM) :=
  (F_X7_isRoom k x1 σ).bind (fun q1 =>
  if (bz q1.1) = 0 then
  some ((-1000001), q1.2)
  else
  (F_X7_in x2 0 13 q1.2).bind (fun q3 =>
  if (bz q3.1) = 0 then
  some ((-1000001), q3.2)
  else
  if x2 = 0 then
  (F_X7_temperature k x1 q3.2).bind (fun q6 =>
  some (q6.1, q6.2))
  else if x2 = 1 then
  (F_X7_of k x1 1 q3.2).bind (fun q8 =>
  some (q8.1, q8.2))
  else if x2 = 12 then
  (F_X7_of k x1 4 q3.2).bind (fun q10 =>
  some (q10.1, q10.2))
  else if x2 = 13 then
  (F_X7_of k x1 5 q3.2).bind (fun q12 =>
  some (q12.1, q12.2))
  else 
  (F_X7_of k x1 ((6 + x2) - 2) q3.2).bind (fun q13 =>
  some (q13.1, q13.2))))
def F_X7_book (k : Nat) (x1 : Int32) (x2 : Int32) (σ : xM) : Option (Int32 × xM) :=
  (F_X7_isRoom k x1 σ).bind (fun q1 =>
  if (bz q1.1) = 0 then
  some ((-1000001), q1.2)
  else
  (F_X7_in x2 0 4 q1.2).bind (fun q3 =>
  if (bz q3.1) = 0 then
  some ((-1000001), q3.2)
  else
  (F_X7_of k x1 (16 + x2) q3.2).bind (fun q5 =>
  some (q5.1, q5.2))))
def F_X7_isSuspect (k : Nat) (x1 : Int32) (σ : xM) : Option (Int32 × xM) :=
  (F_X7_of k x1 13 σ).bind (fun q1 =>
  if inb 6 196 then
  if q1.1 < (q1.2 (k + 1) (Int32.toNatClampNeg 6)) then
  some (0, q1.2)
  else
  some (1, q1.2)
  else none)
def F_X7_count_L34 (k : Nat) : Nat → Int32 → Int32 → xM → Option (Int32 × xM)
  | 0, _, _, _ => none
  | N + 1, x2, x3, σ =>
    if inb 7 196 then
    if (σ (k + 1) (Int32.toNatClampNeg 7)) ≤ x3 then
    some (x2, σ)
    else
    (F_X7_isSuspect k x3 σ).bind (fun q4 =>
    if (bz q4.1) = 0 then
    nm (x2 + 0) (fun x2_6 =>
    F_X7_count_L34 k N x2_6 (x3 + 1) q4.2)
    else
    nm (x2 + 1) (fun x2_7 =>
    F_X7_count_L34 k N x2_7 (x3 + 1) q4.2))
    else none
def F_X7_count_L71 (k : Nat) : Nat → Int32 → Int32 → xM → Option (Int32 × xM)
  | 0, _, _, _ => none
  | N + 1, x2, x3, σ =>
    if inb 7 196 then
    if (σ (k + 1) (Int32.toNatClampNeg 7)) ≤ x3 then
    some (x2, σ)
    else
    (F_X7_of k x3 12 σ).bind (fun q11 =>
    nm (x2 + q11.1) (fun x2_12 =>
    F_X7_count_L71 k N x2_12 (x3 + 1) q11.2))
    else none
def F_X7_count (k : Nat) (x1 : Int32) (σ : xM) : Option (Int32 × xM) :=
  if x1 = 10 then
  F_X7_count_L34 k FU 0 0 σ
  else if x1 = 11 then
  F_X7_count_L71 k FU 0 0 σ
  else if x1 = 12 then
  some ((σ k 4), σ)
  else if x1 = 13 then
  some ((σ k 2), σ)
  else 
  (F_X7_in x1 0 9 σ).bind (fun q15 =>
  if (bz q15.1) = 0 then
  some ((-1000001), q15.2)
  else
  if inb x1 196 then
  some ((q15.2 (k + 1) (Int32.toNatClampNeg x1)), q15.2)
  else none)
def F_X7_appendCharacter (k : Nat) (x1 : Int32) (σ : xM) : Option (Int32 × xM) :=
  (F_X7_in x1 0 255 σ).bind (fun q1 =>
  if (bz q1.1) = 0 then
  some ((-1000001), q1.2)
  else
  if (q1.2 k 4) = 100 then
  some ((-1000003), q1.2)
  else
  if inb (q1.2 k 4) 100 then
  nm (xup q1.2 (k + 3) (Int32.toNatClampNeg (q1.2 k 4)) (vp_nar .byte ((x1).toInt8.toInt32))) (fun σ5 =>
  nm (xup σ5 k 4 ((σ5 k 4) + 1)) (fun σ6 =>
  some ((σ6 k 4), σ6)))
  else none)
def F_X7_clearText (k : Nat) (σ : xM) : Option (Int32 × xM) :=
  nm (σ k 4) (fun x1_1 =>
  nm (xup σ k 4 0) (fun σ2 =>
  some (x1_1, σ2)))
def F_X7_here_J38 (k : Nat)  (σ : xM) : Option (Int32 × xM) :=
  if (σ k 4) ≤ (σ k 8) then
  some ((-1), σ)
  else
  if inb (σ k 8) 100 then
  some (((σ (k + 3) (Int32.toNatClampNeg (σ k 8))) &&& 255), σ)
  else none
def F_X7_here_L0 (k : Nat) : Nat → xM → Option (Int32 × xM)
  | 0, _ => none
  | N + 1, σ =>
    if (σ k 4) ≤ (σ k 8) then
    F_X7_here_J38 k  σ
    else
    if inb (σ k 8) 100 then
    if (σ (k + 3) (Int32.toNatClampNeg (σ k 8))) = 32 then
    nm (xup σ k 8 ((σ k 8) + 1)) (fun σ10 =>
    F_X7_here_L0 k N  σ10)
    else
    F_X7_here_J38 k  σ
    else none
def F_X7_here (k : Nat) (σ : xM) : Option (Int32 × xM) :=
  if (σ k 4) ≤ (σ k 8) then
  F_X7_here_J38 k  σ
  else
  if inb (σ k 8) 100 then
  if (σ (k + 3) (Int32.toNatClampNeg (σ k 8))) = 32 then
  nm (xup σ k 8 ((σ k 8) + 1)) (fun σ6 =>
  F_X7_here_L0 k FU  σ6)
  else
  F_X7_here_J38 k  σ
  else none
def F_X7_reads_J218 (k : Nat) (x9 : Int32) (y0 : Int32) (σ : xM) : Option (Int32 × xM) :=
  nm (xup σ k 8 y0) (fun σ16 =>
  some (x9, σ16))
def F_X7_reads_J201 (k : Nat) (x5 : Int32) (y0 : Int32) (σ : xM) : Option (Int32 × xM) :=
  if (bz y0) = 0 then
  F_X7_reads_J218 k y0 x5 σ
  else
  F_X7_reads_J218 k y0 (σ k 8) σ
def F_X7_reads_J200 (k : Nat) (x5 : Int32) (σ : xM) : Option (Int32 × xM) :=
  F_X7_reads_J201 k x5 0 σ
def F_X7_reads_J184 (k : Nat) (x1 : Int32) (x2 : Int32) (x5 : Int32) (σ : xM) : Option (Int32 × xM) :=
  (F_X7_in (σ k 9) x1 x2 σ).bind (fun q13 =>
  if (bz q13.1) = 0 then
  F_X7_reads_J200 k x5 q13.2
  else
  F_X7_reads_J201 k x5 1 q13.2)
def F_X7_reads_J158 (k : Nat) (x1 : Int32) (x2 : Int32) (x5 : Int32) (x7 : Int32) (y0 : Int32) (σ : xM) : Option (Int32 × xM) :=
  nm (xup σ k 9 y0) (fun σ10 =>
  if inb x7 100 then
  if (σ10 (k + 3) (Int32.toNatClampNeg x7)) = 48 then
  if (σ10 k 8) = (x7 + 1) then
  F_X7_reads_J184 k x1 x2 x5 σ10
  else
  F_X7_reads_J200 k x5 σ10
  else
  F_X7_reads_J184 k x1 x2 x5 σ10
  else none)
def F_X7_reads_J133 (k : Nat) (x1 : Int32) (x2 : Int32) (x5 : Int32) (x6 : Int32) (x7 : Int32) (x8 : Int32) (σ : xM) : Option (Int32 × xM) :=
  if (σ k 8) = x7 then
  some (0, σ)
  else
  if x6 = 0 then
  F_X7_reads_J158 k x1 x2 x5 x7 x8 σ
  else
  F_X7_reads_J158 k x1 x2 x5 x7 (-x8) σ
def F_X7_reads_L58 (k : Nat) : Nat → Int32 → Int32 → Int32 → Int32 → Int32 → Int32 → xM → Option (Int32 × xM)
  | 0, _, _, _, _, _, _, _ => none
  | N + 1, x1, x2, x5, x6, x7, x8, σ =>
    if (σ k 4) ≤ (σ k 8) then
    F_X7_reads_J133 k x1 x2 x5 x6 x7 x8 σ
    else
    if inb (σ k 8) 100 then
    (F_X7_in (σ (k + 3) (Int32.toNatClampNeg (σ k 8))) 48 57 σ).bind (fun q19 =>
    if (bz q19.1) = 0 then
    F_X7_reads_J133 k x1 x2 x5 x6 x7 x8 q19.2
    else
    if 100000 ≤ x8 then
    nm (xup q19.2 k 8 ((q19.2 k 8) + 1)) (fun σ22 =>
    F_X7_reads_L58 k N x1 x2 x5 x6 x7 x8 σ22)
    else
    if inb (q19.2 k 8) 100 then
    nm (((10 * x8) + (q19.2 (k + 3) (Int32.toNatClampNeg (q19.2 k 8)))) - 48) (fun x8_24 =>
    nm (xup q19.2 k 8 ((q19.2 k 8) + 1)) (fun σ25 =>
    F_X7_reads_L58 k N x1 x2 x5 x6 x7 x8_24 σ25))
    else none)
    else none
def F_X7_reads_J45 (k : Nat) (x1 : Int32) (x2 : Int32) (x5 : Int32) (x6 : Int32) (y0 : Int32) (y1 : Int32) (σ : xM) : Option (Int32 × xM) :=
  nm (xup σ k 8 (y1 + y0)) (fun σ5 =>
  nm (σ5 k 8) (fun x7_6 =>
  F_X7_reads_L58 k FU x1 x2 x5 x6 x7_6 0 σ5))
def F_X7_reads_J28 (k : Nat) (x1 : Int32) (x2 : Int32) (x5 : Int32) (y0 : Int32) (σ : xM) : Option (Int32 × xM) :=
  if y0 = 0 then
  F_X7_reads_J45 k x1 x2 x5 y0 0 (σ k 8) σ
  else
  F_X7_reads_J45 k x1 x2 x5 y0 1 (σ k 8) σ
def F_X7_reads_J27 (k : Nat) (x1 : Int32) (x2 : Int32) (x5 : Int32) (σ : xM) : Option (Int32 × xM) :=
  F_X7_reads_J28 k x1 x2 x5 0 σ
def F_X7_reads (k : Nat) (x1 : Int32) (x2 : Int32) (x3 : Int32) (σ : xM) : Option (Int32 × xM) :=
  (F_X7_here k σ).bind (fun q1 =>
  nm (q1.2 k 8) (fun x5_2 =>
  if x3 = 0 then
  F_X7_reads_J27 k x1 x2 x5_2 q1.2
  else
  if q1.1 = 45 then
  F_X7_reads_J28 k x1 x2 x5_2 1 q1.2
  else
  F_X7_reads_J27 k x1 x2 x5_2 q1.2))
def F_X7_readsAll_L23 (k : Nat) : Nat → Int32 → xM → Option (Int32 × xM)
  | 0, _, _ => none
  | N + 1, x1, σ =>
    if x1 = 0 then
    some (1, σ)
    else
    if (σ k 7) = 0 then
    if (σ k 7) = 12 then
    (F_X7_reads k 100000 9999 0 σ).bind (fun q110 =>
    if (bz q110.1) = 0 then
    some (0, q110.2)
    else
    nm (q110.2 k 9) (fun x3_112 =>
    (F_X7_here k q110.2).bind (fun q113 =>
    if q113.1 = 61 then
    nm (xup q113.2 k 8 ((q113.2 k 8) + 1)) (fun σ115 =>
    (F_X7_reads k (-40) 40 1 σ115).bind (fun q116 =>
    if (bz q116.1) = 0 then
    some (0, q116.2)
    else
    if inb (2 * (q116.2 k 7)) 24 then
    nm (xup q116.2 (k + 5) (Int32.toNatClampNeg (2 * (q116.2 k 7))) x3_112) (fun σ119 =>
    if inb ((2 * (σ119 k 7)) + 1) 24 then
    nm (xup σ119 (k + 5) (Int32.toNatClampNeg ((2 * (σ119 k 7)) + 1)) (σ119 k 9)) (fun σ121 =>
    nm (xup σ121 k 7 ((σ121 k 7) + 1)) (fun σ122 =>
    (F_X7_here k σ122).bind (fun q123 =>
    if q123.1 < 0 then
    if 0 = 0 then
    if 0 = 0 then
    nm (xup q123.2 k 8 ((q123.2 k 8) + 0)) (fun σ127 =>
    F_X7_readsAll_L23 k N 0 σ127)
    else
    nm (xup q123.2 k 8 ((q123.2 k 8) + 1)) (fun σ128 =>
    F_X7_readsAll_L23 k N 0 σ128)
    else
    (F_X7_here k q123.2).bind (fun q129 =>
    if q129.1 = 59 then
    if 0 = 0 then
    nm (xup q129.2 k 8 ((q129.2 k 8) + 0)) (fun σ132 =>
    F_X7_readsAll_L23 k N 0 σ132)
    else
    nm (xup q129.2 k 8 ((q129.2 k 8) + 1)) (fun σ133 =>
    F_X7_readsAll_L23 k N 0 σ133)
    else
    some (0, q129.2))
    else
    if 1 = 0 then
    if 1 = 0 then
    nm (xup q123.2 k 8 ((q123.2 k 8) + 0)) (fun σ136 =>
    F_X7_readsAll_L23 k N 1 σ136)
    else
    nm (xup q123.2 k 8 ((q123.2 k 8) + 1)) (fun σ137 =>
    F_X7_readsAll_L23 k N 1 σ137)
    else
    (F_X7_here k q123.2).bind (fun q138 =>
    if q138.1 = 59 then
    if 1 = 0 then
    nm (xup q138.2 k 8 ((q138.2 k 8) + 0)) (fun σ141 =>
    F_X7_readsAll_L23 k N 1 σ141)
    else
    nm (xup q138.2 k 8 ((q138.2 k 8) + 1)) (fun σ142 =>
    F_X7_readsAll_L23 k N 1 σ142)
    else
    some (0, q138.2)))))
    else none)
    else none))
    else
    some (0, q113.2))))
    else
    (F_X7_reads k 0 9999 0 σ).bind (fun q77 =>
    if (bz q77.1) = 0 then
    some (0, q77.2)
    else
    nm (q77.2 k 9) (fun x3_79 =>
    (F_X7_here k q77.2).bind (fun q80 =>
    if q80.1 = 61 then
    nm (xup q80.2 k 8 ((q80.2 k 8) + 1)) (fun σ82 =>
    (F_X7_reads k (-40) 40 1 σ82).bind (fun q83 =>
    if (bz q83.1) = 0 then
    some (0, q83.2)
    else
    if inb (2 * (q83.2 k 7)) 24 then
    nm (xup q83.2 (k + 5) (Int32.toNatClampNeg (2 * (q83.2 k 7))) x3_79) (fun σ86 =>
    if inb ((2 * (σ86 k 7)) + 1) 24 then
    nm (xup σ86 (k + 5) (Int32.toNatClampNeg ((2 * (σ86 k 7)) + 1)) (σ86 k 9)) (fun σ88 =>
    nm (xup σ88 k 7 ((σ88 k 7) + 1)) (fun σ89 =>
    (F_X7_here k σ89).bind (fun q90 =>
    if q90.1 < 0 then
    if 0 = 0 then
    if 0 = 0 then
    nm (xup q90.2 k 8 ((q90.2 k 8) + 0)) (fun σ94 =>
    F_X7_readsAll_L23 k N 0 σ94)
    else
    nm (xup q90.2 k 8 ((q90.2 k 8) + 1)) (fun σ95 =>
    F_X7_readsAll_L23 k N 0 σ95)
    else
    (F_X7_here k q90.2).bind (fun q96 =>
    if q96.1 = 59 then
    if 0 = 0 then
    nm (xup q96.2 k 8 ((q96.2 k 8) + 0)) (fun σ99 =>
    F_X7_readsAll_L23 k N 0 σ99)
    else
    nm (xup q96.2 k 8 ((q96.2 k 8) + 1)) (fun σ100 =>
    F_X7_readsAll_L23 k N 0 σ100)
    else
    some (0, q96.2))
    else
    if 1 = 0 then
    if 1 = 0 then
    nm (xup q90.2 k 8 ((q90.2 k 8) + 0)) (fun σ103 =>
    F_X7_readsAll_L23 k N 1 σ103)
    else
    nm (xup q90.2 k 8 ((q90.2 k 8) + 1)) (fun σ104 =>
    F_X7_readsAll_L23 k N 1 σ104)
    else
    (F_X7_here k q90.2).bind (fun q105 =>
    if q105.1 = 59 then
    if 1 = 0 then
    nm (xup q105.2 k 8 ((q105.2 k 8) + 0)) (fun σ108 =>
    F_X7_readsAll_L23 k N 1 σ108)
    else
    nm (xup q105.2 k 8 ((q105.2 k 8) + 1)) (fun σ109 =>
    F_X7_readsAll_L23 k N 1 σ109)
    else
    some (0, q105.2)))))
    else none)
    else none))
    else
    some (0, q80.2))))
    else
    if inb ((2 * (σ k 7)) - 2) 24 then
    nm ((σ (k + 5) (Int32.toNatClampNeg ((2 * (σ k 7)) - 2))) + 1) (fun x2_8 =>
    if (σ k 7) = 12 then
    (F_X7_reads k 100000 9999 0 σ).bind (fun q43 =>
    if (bz q43.1) = 0 then
    some (0, q43.2)
    else
    nm (q43.2 k 9) (fun x3_45 =>
    (F_X7_here k q43.2).bind (fun q46 =>
    if q46.1 = 61 then
    nm (xup q46.2 k 8 ((q46.2 k 8) + 1)) (fun σ48 =>
    (F_X7_reads k (-40) 40 1 σ48).bind (fun q49 =>
    if (bz q49.1) = 0 then
    some (0, q49.2)
    else
    if inb (2 * (q49.2 k 7)) 24 then
    nm (xup q49.2 (k + 5) (Int32.toNatClampNeg (2 * (q49.2 k 7))) x3_45) (fun σ52 =>
    if inb ((2 * (σ52 k 7)) + 1) 24 then
    nm (xup σ52 (k + 5) (Int32.toNatClampNeg ((2 * (σ52 k 7)) + 1)) (σ52 k 9)) (fun σ54 =>
    nm (xup σ54 k 7 ((σ54 k 7) + 1)) (fun σ55 =>
    (F_X7_here k σ55).bind (fun q56 =>
    if q56.1 < 0 then
    if 0 = 0 then
    if 0 = 0 then
    nm (xup q56.2 k 8 ((q56.2 k 8) + 0)) (fun σ60 =>
    F_X7_readsAll_L23 k N 0 σ60)
    else
    nm (xup q56.2 k 8 ((q56.2 k 8) + 1)) (fun σ61 =>
    F_X7_readsAll_L23 k N 0 σ61)
    else
    (F_X7_here k q56.2).bind (fun q62 =>
    if q62.1 = 59 then
    if 0 = 0 then
    nm (xup q62.2 k 8 ((q62.2 k 8) + 0)) (fun σ65 =>
    F_X7_readsAll_L23 k N 0 σ65)
    else
    nm (xup q62.2 k 8 ((q62.2 k 8) + 1)) (fun σ66 =>
    F_X7_readsAll_L23 k N 0 σ66)
    else
    some (0, q62.2))
    else
    if 1 = 0 then
    if 1 = 0 then
    nm (xup q56.2 k 8 ((q56.2 k 8) + 0)) (fun σ69 =>
    F_X7_readsAll_L23 k N 1 σ69)
    else
    nm (xup q56.2 k 8 ((q56.2 k 8) + 1)) (fun σ70 =>
    F_X7_readsAll_L23 k N 1 σ70)
    else
    (F_X7_here k q56.2).bind (fun q71 =>
    if q71.1 = 59 then
    if 1 = 0 then
    nm (xup q71.2 k 8 ((q71.2 k 8) + 0)) (fun σ74 =>
    F_X7_readsAll_L23 k N 1 σ74)
    else
    nm (xup q71.2 k 8 ((q71.2 k 8) + 1)) (fun σ75 =>
    F_X7_readsAll_L23 k N 1 σ75)
    else
    some (0, q71.2)))))
    else none)
    else none))
    else
    some (0, q46.2))))
    else
    (F_X7_reads k x2_8 9999 0 σ).bind (fun q10 =>
    if (bz q10.1) = 0 then
    some (0, q10.2)
    else
    nm (q10.2 k 9) (fun x3_12 =>
    (F_X7_here k q10.2).bind (fun q13 =>
    if q13.1 = 61 then
    nm (xup q13.2 k 8 ((q13.2 k 8) + 1)) (fun σ15 =>
    (F_X7_reads k (-40) 40 1 σ15).bind (fun q16 =>
    if (bz q16.1) = 0 then
    some (0, q16.2)
    else
    if inb (2 * (q16.2 k 7)) 24 then
    nm (xup q16.2 (k + 5) (Int32.toNatClampNeg (2 * (q16.2 k 7))) x3_12) (fun σ19 =>
    if inb ((2 * (σ19 k 7)) + 1) 24 then
    nm (xup σ19 (k + 5) (Int32.toNatClampNeg ((2 * (σ19 k 7)) + 1)) (σ19 k 9)) (fun σ21 =>
    nm (xup σ21 k 7 ((σ21 k 7) + 1)) (fun σ22 =>
    (F_X7_here k σ22).bind (fun q23 =>
    if q23.1 < 0 then
    if 0 = 0 then
    if 0 = 0 then
    nm (xup q23.2 k 8 ((q23.2 k 8) + 0)) (fun σ27 =>
    F_X7_readsAll_L23 k N 0 σ27)
    else
    nm (xup q23.2 k 8 ((q23.2 k 8) + 1)) (fun σ28 =>
    F_X7_readsAll_L23 k N 0 σ28)
    else
    (F_X7_here k q23.2).bind (fun q29 =>
    if q29.1 = 59 then
    if 0 = 0 then
    nm (xup q29.2 k 8 ((q29.2 k 8) + 0)) (fun σ32 =>
    F_X7_readsAll_L23 k N 0 σ32)
    else
    nm (xup q29.2 k 8 ((q29.2 k 8) + 1)) (fun σ33 =>
    F_X7_readsAll_L23 k N 0 σ33)
    else
    some (0, q29.2))
    else
    if 1 = 0 then
    if 1 = 0 then
    nm (xup q23.2 k 8 ((q23.2 k 8) + 0)) (fun σ36 =>
    F_X7_readsAll_L23 k N 1 σ36)
    else
    nm (xup q23.2 k 8 ((q23.2 k 8) + 1)) (fun σ37 =>
    F_X7_readsAll_L23 k N 1 σ37)
    else
    (F_X7_here k q23.2).bind (fun q38 =>
    if q38.1 = 59 then
    if 1 = 0 then
    nm (xup q38.2 k 8 ((q38.2 k 8) + 0)) (fun σ41 =>
    F_X7_readsAll_L23 k N 1 σ41)
    else
    nm (xup q38.2 k 8 ((q38.2 k 8) + 1)) (fun σ42 =>
    F_X7_readsAll_L23 k N 1 σ42)
    else
    some (0, q38.2)))))
    else none)
    else none))
    else
    some (0, q13.2)))))
    else none
def F_X7_readsAll_J22 (k : Nat) (y0 : Int32) (σ : xM) : Option (Int32 × xM) :=
  F_X7_readsAll_L23 k FU y0 σ
def F_X7_readsAll (k : Nat) (σ : xM) : Option (Int32 × xM) :=
  nm (xup σ k 8 0) (fun σ1 =>
  nm (xup σ1 k 7 0) (fun σ2 =>
  (F_X7_here k σ2).bind (fun q3 =>
  if q3.1 < 0 then
  F_X7_readsAll_J22 k 0 q3.2
  else
  F_X7_readsAll_J22 k 1 q3.2)))
def F_X7_load_L32 (k : Nat) : Nat → Int32 → xM → Option (Int32 × xM)
  | 0, _, _ => none
  | N + 1, x1, σ =>
    if 24 ≤ x1 then
    nm (xup σ k 4 0) (fun σ7 =>
    some ((σ7 k 7), σ7))
    else
    if (2 * (σ k 7)) ≤ x1 then
    if inb (10 + x1) 196 then
    nm (xup σ (k + 1) (Int32.toNatClampNeg (10 + x1)) 0) (fun σ10 =>
    F_X7_load_L32 k N (x1 + 1) σ10)
    else none
    else
    if inb x1 24 then
    if inb (10 + x1) 196 then
    nm (xup σ (k + 1) (Int32.toNatClampNeg (10 + x1)) (σ (k + 5) (Int32.toNatClampNeg x1))) (fun σ13 =>
    F_X7_load_L32 k N (x1 + 1) σ13)
    else none
    else none
def F_X7_load (k : Nat) (σ : xM) : Option (Int32 × xM) :=
  (F_X7_readsAll k σ).bind (fun q1 =>
  if (bz q1.1) = 0 then
  some (((-10) - (q1.2 k 8)), q1.2)
  else
  (F_X7_notes k q1.2).bind (fun q3 =>
  if inb 9 196 then
  nm (xup q3.2 (k + 1) (Int32.toNatClampNeg 9) (q3.2 k 7)) (fun σ5 =>
  F_X7_load_L32 k FU 0 σ5)
  else none))
def F_X7_air_J51 (k : Nat) (x2 : Int32) (x3 : Int32) (σ : xM) : Option (Int32 × xM) :=
  if x3 = 0 then
  if inb ((10 + (2 * 0)) + 1) 196 then
  some ((1000 * (σ (k + 1) (Int32.toNatClampNeg ((10 + (2 * 0)) + 1)))), σ)
  else none
  else
  if inb ((10 + (2 * (x2 - 1))) + 1) 196 then
  some ((1000 * (σ (k + 1) (Int32.toNatClampNeg ((10 + (2 * (x2 - 1))) + 1)))), σ)
  else none
def F_X7_air_J36 (k : Nat) (x1 : Int32) (x2 : Int32) (x3 : Int32) (σ : xM) : Option (Int32 × xM) :=
  if x2 = 0 then
  some (0, σ)
  else
  if x3 = 0 then
  F_X7_air_J51 k x2 x3 σ
  else
  if x3 = x2 then
  F_X7_air_J51 k x2 x3 σ
  else
  nm ((10 + (2 * x3)) - 2) (fun x4_10 =>
  if inb (x4_10 + 1) 196 then
  if inb (x4_10 + 3) 196 then
  if inb (x4_10 + 1) 196 then
  if inb x4_10 196 then
  if inb (x4_10 + 2) 196 then
  if inb x4_10 196 then
  if ((σ (k + 1) (Int32.toNatClampNeg (x4_10 + 2))) - (σ (k + 1) (Int32.toNatClampNeg x4_10))) = 0 then none else
  some (((1000 * (σ (k + 1) (Int32.toNatClampNeg (x4_10 + 1)))) + (((1000 * ((σ (k + 1) (Int32.toNatClampNeg (x4_10 + 3))) - (σ (k + 1) (Int32.toNatClampNeg (x4_10 + 1))))) * (x1 - (σ (k + 1) (Int32.toNatClampNeg x4_10)))) / ((σ (k + 1) (Int32.toNatClampNeg (x4_10 + 2))) - (σ (k + 1) (Int32.toNatClampNeg x4_10))))), σ)
  else none
  else none
  else none
  else none
  else none
  else none)
def F_X7_air_L10 (k : Nat) : Nat → Int32 → Int32 → Int32 → xM → Option (Int32 × xM)
  | 0, _, _, _, _ => none
  | N + 1, x1, x2, x3, σ =>
    if x2 ≤ x3 then
    F_X7_air_J36 k x1 x2 x3 σ
    else
    if inb (10 + (2 * x3)) 196 then
    if x1 < (σ (k + 1) (Int32.toNatClampNeg (10 + (2 * x3)))) then
    F_X7_air_J36 k x1 x2 x3 σ
    else
    F_X7_air_L10 k N x1 x2 (x3 + 1) σ
    else none
def F_X7_air (k : Nat) (x1 : Int32) (σ : xM) : Option (Int32 × xM) :=
  if inb 9 196 then
  nm (σ (k + 1) (Int32.toNatClampNeg 9)) (fun x2_2 =>
  F_X7_air_L10 k FU x1 x2_2 0 σ)
  else none
def F_X7_outside (k : Nat) (x1 : Int32) (σ : xM) : Option (Int32 × xM) :=
  (F_X7_in x1 0 20000 σ).bind (fun q1 =>
  if (bz q1.1) = 0 then
  some ((-1000001), q1.2)
  else
  (F_X7_air k x1 q1.2).bind (fun q3 =>
  some (q3.1, q3.2)))
def F_X7_flows_L59 (k : Nat) : Nat → Int32 → Int32 → Int32 → Int32 → Int32 → xM → Option (Unit × xM)
  | 0, _, _, _, _, _, _ => none
  | N + 1, x1, x3, x4, x5, x6, σ =>
    if inb 7 196 then
    if (σ (k + 1) (Int32.toNatClampNeg 7)) ≤ x6 then
    (F_X7_grows k x1 1 ((x3 - x4) - x5) σ).bind (fun q8 =>
    (F_X7_grows k x1 17 x3 q8.2).bind (fun q9 =>
    (F_X7_grows k x1 18 x4 q9.2).bind (fun q10 =>
    (F_X7_grows k x1 19 x5 q10.2).bind (fun q11 =>
    some ((), q11.2)))))
    else
    if inb ((34 + (6 * x1)) + x6) 196 then
    if inb x1 6 then
    if inb x6 6 then
    nm (x5 + (((σ (k + 1) (Int32.toNatClampNeg ((34 + (6 * x1)) + x6))) * ((σ (k + 6) (Int32.toNatClampNeg x1)) - (σ (k + 6) (Int32.toNatClampNeg x6)))) / 1000)) (fun x5_15 =>
    F_X7_flows_L59 k N x1 x3 x4 x5_15 (x6 + 1) σ)
    else none
    else none
    else none
    else none
def F_X7_flows_J31 (k : Nat) (x1 : Int32) (x2 : Int32) (y0 : Int32) (σ : xM) : Option (Unit × xM) :=
  (F_X7_of k x1 3 σ).bind (fun q3 =>
  if inb x1 6 then
  nm ((q3.1 * ((q3.2 (k + 6) (Int32.toNatClampNeg x1)) - x2)) / 1000) (fun x4_5 =>
  F_X7_flows_L59 k FU x1 y0 x4_5 0 0 q3.2)
  else none)
def F_X7_flows_J30 (k : Nat) (x1 : Int32) (x2 : Int32) (σ : xM) : Option (Unit × xM) :=
  F_X7_flows_J31 k x1 x2 0 σ
def F_X7_flows (k : Nat) (x1 : Int32) (x2 : Int32) (σ : xM) : Option (Unit × xM) :=
  (F_X7_of k x1 7 σ).bind (fun q1 =>
  if q1.1 = 1 then
  (F_X7_of k x1 14 q1.2).bind (fun q16 =>
  if q16.1 = 0 then
  (F_X7_of k x1 2 q16.2).bind (fun q18 =>
  F_X7_flows_J31 k x1 x2 q18.1 q18.2)
  else
  F_X7_flows_J30 k x1 x2 q16.2)
  else
  F_X7_flows_J30 k x1 x2 q1.2)
def F_X7_closes_J123 (k : Nat) (x1 : Int32) (y0 : Int32) (y1 : Int32) (y2 : Int32) (σ : xM) : Option (Unit × xM) :=
  (F_X7_grows k y2 y1 y0 σ).bind (fun q13 =>
  if inb 8 196 then
  (F_X7_puts k x1 15 (q13.2 (k + 1) (Int32.toNatClampNeg 8)) q13.2).bind (fun q15 =>
  some ((), q15.2))
  else none)
def F_X7_closes_J104 (k : Nat) (x1 : Int32) (y0 : Int32) (σ : xM) : Option (Unit × xM) :=
  if y0 = 0 then
  F_X7_closes_J123 k x1 0 12 x1 σ
  else
  if inb 4 196 then
  F_X7_closes_J123 k x1 (σ (k + 1) (Int32.toNatClampNeg 4)) 12 x1 σ
  else none
def F_X7_closes_J103 (k : Nat) (x1 : Int32) (σ : xM) : Option (Unit × xM) :=
  F_X7_closes_J104 k x1 0 σ
def F_X7_closes_J60 (k : Nat) (x1 : Int32) (y0 : Int32) (y1 : Int32) (y2 : Int32) (σ : xM) : Option (Unit × xM) :=
  (F_X7_puts k y2 y1 y0 σ).bind (fun q9 =>
  (F_X7_of k x1 15 q9.2).bind (fun q10 =>
  if q10.1 = (-1000009) then
  F_X7_closes_J103 k x1 q10.2
  else
  if inb 8 196 then
  (F_X7_of k x1 15 q10.2).bind (fun q18 =>
  if inb 3 196 then
  if (q18.2 (k + 1) (Int32.toNatClampNeg 3)) ≤ ((q10.2 (k + 1) (Int32.toNatClampNeg 8)) - q18.1) then
  F_X7_closes_J103 k x1 q18.2
  else
  F_X7_closes_J104 k x1 1 q18.2
  else none)
  else none))
def F_X7_closes (k : Nat) (x1 : Int32) (σ : xM) : Option (Unit × xM) :=
  (F_X7_puts k x1 7 1 σ).bind (fun q1 =>
  (F_X7_grows k x1 11 1 q1.2).bind (fun q2 =>
  (F_X7_of k x1 2 q2.2).bind (fun q3 =>
  (F_X7_grows k x1 9 q3.1 q3.2).bind (fun q4 =>
  (F_X7_of k x1 9 q4.2).bind (fun q5 =>
  if inb 1 196 then
  if q5.1 < (q5.2 (k + 1) (Int32.toNatClampNeg 1)) then
  (F_X7_of k x1 8 q5.2).bind (fun q8 =>
  F_X7_closes_J60 k x1 q8.1 8 x1 q8.2)
  else
  F_X7_closes_J60 k x1 1 8 x1 q5.2
  else none)))))
def F_X7_opens_J69 (k : Nat) (x1 : Int32) (σ : xM) : Option (Int32 × xM) :=
  (F_X7_puts k x1 7 0 σ).bind (fun q3 =>
  some (1, q3.2))
def F_X7_opens (k : Nat) (x1 : Int32) (σ : xM) : Option (Int32 × xM) :=
  (F_X7_of k x1 8 σ).bind (fun q1 =>
  if q1.1 = 1 then
  (F_X7_grows k x1 10 1 q1.2).bind (fun q4 =>
  (F_X7_of k x1 10 q4.2).bind (fun q5 =>
  if inb 2 196 then
  if (q5.2 (k + 1) (Int32.toNatClampNeg 2)) ≤ q5.1 then
  (F_X7_puts k x1 8 0 q5.2).bind (fun q8 =>
  (F_X7_puts k x1 10 0 q8.2).bind (fun q9 =>
  (F_X7_of k x1 9 q9.2).bind (fun q10 =>
  (F_X7_puts k x1 9 (q10.1 / 2) q10.2).bind (fun q11 =>
  F_X7_opens_J69 k x1 q11.2))))
  else
  some (0, q5.2)
  else none))
  else
  F_X7_opens_J69 k x1 q1.2)
def F_X7_turns_J189 (k : Nat) (x5 : Int32) (y0 : Int32) (y1 : Int32) (y2 : Int32) (σ : xM) : Option (Int32 × xM) :=
  (F_X7_puts k y2 y1 y0 σ).bind (fun q19 =>
  some (x5, q19.2))
def F_X7_turns_J188 (k : Nat) (x5 : Int32) (y0 : Int32) (y1 : Int32) (σ : xM) : Option (Int32 × xM) :=
  F_X7_turns_J189 k x5 0 y0 y1 σ
def F_X7_turns_J156 (k : Nat) (x1 : Int32) (x4 : Int32) (x5 : Int32) (σ : xM) : Option (Int32 × xM) :=
  (F_X7_of k x1 7 σ).bind (fun q17 =>
  if q17.1 = 1 then
  if x4 = 0 then
  F_X7_turns_J188 k x5 13 x1 q17.2
  else
  (F_X7_of k x1 13 q17.2).bind (fun q21 =>
  F_X7_turns_J189 k x5 (q21.1 + 1) 13 x1 q21.2)
  else
  F_X7_turns_J188 k x5 13 x1 q17.2)
def F_X7_turns_J133 (k : Nat) (x1 : Int32) (x4 : Int32) (x5 : Int32) (σ : xM) : Option (Int32 × xM) :=
  (F_X7_of k x1 7 σ).bind (fun q15 =>
  if q15.1 = 1 then
  if x4 = 0 then
  F_X7_turns_J156 k x1 x4 x5 q15.2
  else
  (F_X7_opens k x1 q15.2).bind (fun q23 =>
  F_X7_turns_J156 k x1 x4 q23.1 q23.2)
  else
  F_X7_turns_J156 k x1 x4 x5 q15.2)
def F_X7_turns_J90 (k : Nat) (x1 : Int32) (x3 : Int32) (y0 : Int32) (σ : xM) : Option (Int32 × xM) :=
  (F_X7_of k x1 7 σ).bind (fun q13 =>
  if q13.1 = 0 then
  (F_X7_of k x1 4 q13.2).bind (fun q24 =>
  (F_X7_of k x1 5 q24.2).bind (fun q25 =>
  if (q24.1 - q25.1) < x3 then
  F_X7_turns_J133 k x1 y0 0 q25.2
  else
  (F_X7_closes k x1 q25.2).bind (fun q27 =>
  F_X7_turns_J156 k x1 y0 1 q27.2)))
  else
  F_X7_turns_J133 k x1 y0 0 q13.2)
def F_X7_turns_J31 (k : Nat) (x1 : Int32) (x2 : Int32) (y0 : Int32) (y1 : Int32) (y2 : Int32) (σ : xM) : Option (Int32 × xM) :=
  (F_X7_puts k y2 y1 y0 σ).bind (fun q5 =>
  (F_X7_of k x1 6 q5.2).bind (fun q6 =>
  if inb 0 196 then
  (F_X7_grows k x1 6 (((x2 - q6.1) * (q6.2 (k + 1) (Int32.toNatClampNeg 0))) / 100) q6.2).bind (fun q8 =>
  (F_X7_of k x1 6 q8.2).bind (fun q9 =>
  (F_X7_of k x1 4 q9.2).bind (fun q10 =>
  (F_X7_of k x1 5 q10.2).bind (fun q11 =>
  if q9.1 < (q10.1 + q11.1) then
  F_X7_turns_J90 k x1 q9.1 0 q11.2
  else
  F_X7_turns_J90 k x1 q9.1 1 q11.2))))
  else none))
def F_X7_turns (k : Nat) (x1 : Int32) (σ : xM) : Option (Int32 × xM) :=
  (F_X7_temperature k x1 σ).bind (fun q1 =>
  if inb 5 196 then
  if q1.1 ≤ (q1.2 (k + 1) (Int32.toNatClampNeg 5)) then
  (F_X7_of k x1 14 q1.2).bind (fun q4 =>
  F_X7_turns_J31 k x1 q1.1 q4.1 14 x1 q4.2)
  else
  F_X7_turns_J31 k x1 q1.1 1 14 x1 q1.2
  else none)
def F_X7_minute_L71 (k : Nat) : Nat → Int32 → Int32 → xM → Option (Int32 × xM)
  | 0, _, _, _ => none
  | N + 1, x2, x3, σ =>
    if inb 7 196 then
    if (σ (k + 1) (Int32.toNatClampNeg 7)) ≤ x3 then
    if inb 8 196 then
    if inb 8 196 then
    nm (xup σ (k + 1) (Int32.toNatClampNeg 8) ((σ (k + 1) (Int32.toNatClampNeg 8)) + 1)) (fun σ11 =>
    some (x2, σ11))
    else none
    else none
    else
    (F_X7_turns k x3 σ).bind (fun q12 =>
    nm (x2 + q12.1) (fun x2_13 =>
    F_X7_minute_L71 k N x2_13 (x3 + 1) q12.2))
    else none
def F_X7_minute_L44 (k : Nat) : Nat → Int32 → Int32 → xM → Option (Int32 × xM)
  | 0, _, _, _ => none
  | N + 1, x1, x2, σ =>
    if inb 7 196 then
    if (σ (k + 1) (Int32.toNatClampNeg 7)) ≤ x2 then
    F_X7_minute_L71 k FU 0 0 σ
    else
    (F_X7_flows k x2 x1 σ).bind (fun q14 =>
    F_X7_minute_L44 k N x1 (x2 + 1) q14.2)
    else none
def F_X7_minute_L14 (k : Nat) : Nat → Int32 → Int32 → xM → Option (Int32 × xM)
  | 0, _, _, _ => none
  | N + 1, x1, x2, σ =>
    if inb 7 196 then
    if (σ (k + 1) (Int32.toNatClampNeg 7)) ≤ x2 then
    F_X7_minute_L44 k FU x1 0 σ
    else
    (F_X7_temperature k x2 σ).bind (fun q15 =>
    if inb x2 6 then
    nm (xup q15.2 (k + 6) (Int32.toNatClampNeg x2) q15.1) (fun σ17 =>
    F_X7_minute_L14 k N x1 (x2 + 1) σ17)
    else none)
    else none
def F_X7_minute (k : Nat) (σ : xM) : Option (Int32 × xM) :=
  if inb 8 196 then
  (F_X7_air k (σ (k + 1) (Int32.toNatClampNeg 8)) σ).bind (fun q2 =>
  F_X7_minute_L14 k FU q2.1 0 q2.2)
  else none
def F_X7_minutes_L4 (k : Nat) : Nat → Int32 → Int32 → Int32 → xM → Option (Int32 × xM)
  | 0, _, _, _, _ => none
  | N + 1, x1, x2, x3, σ =>
    if x1 ≤ x3 then
    some (x2, σ)
    else
    (F_X7_minute k σ).bind (fun q2 =>
    nm (x2 + q2.1) (fun x2_3 =>
    F_X7_minutes_L4 k N x1 x2_3 (x3 + 1) q2.2))
def F_X7_minutes (k : Nat) (x1 : Int32) (σ : xM) : Option (Int32 × xM) :=
  F_X7_minutes_L4 k FU x1 0 0 σ
def F_X7_pass (k : Nat) (x1 : Int32) (σ : xM) : Option (Int32 × xM) :=
  (F_X7_in x1 1 500 σ).bind (fun q1 =>
  if (bz q1.1) = 0 then
  some ((-1000001), q1.2)
  else
  if inb 7 196 then
  if (q1.2 (k + 1) (Int32.toNatClampNeg 7)) = 0 then
  some ((-1000002), q1.2)
  else
  if inb 8 196 then
  if ((q1.2 (k + 1) (Int32.toNatClampNeg 8)) + x1) ≤ 20000 then
  (F_X7_notes k q1.2).bind (fun q7 =>
  (F_X7_minutes k x1 q7.2).bind (fun q8 =>
  some (q8.1, q8.2)))
  else
  some ((-1000003), q1.2)
  else none
  else none)
def F_X7_keeps_L2 (k : Nat) : Nat → Int32 → xM → Option (Unit × xM)
  | 0, _, _ => none
  | N + 1, x1, σ =>
    if 196 ≤ x1 then
    some ((), σ)
    else
    if inb x1 196 then
    if inb x1 196 then
    nm (xup σ (k + 4) (Int32.toNatClampNeg x1) (σ (k + 1) (Int32.toNatClampNeg x1))) (fun σ4 =>
    F_X7_keeps_L2 k N (x1 + 1) σ4)
    else none
    else none
def F_X7_keeps (k : Nat) (σ : xM) : Option (Unit × xM) :=
  F_X7_keeps_L2 k FU 0 σ
def F_X7_restores_L2 (k : Nat) : Nat → Int32 → xM → Option (Unit × xM)
  | 0, _, _ => none
  | N + 1, x1, σ =>
    if 196 ≤ x1 then
    some ((), σ)
    else
    if inb x1 196 then
    if inb x1 196 then
    nm (xup σ (k + 1) (Int32.toNatClampNeg x1) (σ (k + 4) (Int32.toNatClampNeg x1))) (fun σ4 =>
    F_X7_restores_L2 k N (x1 + 1) σ4)
    else none
    else none
def F_X7_restores (k : Nat) (σ : xM) : Option (Unit × xM) :=
  F_X7_restores_L2 k FU 0 σ
def F_X7_minutesToSuspect_J64 (k : Nat) (x2 : Int32) (y0 : Int32) (σ : xM) : Option (Int32 × xM) :=
  (F_X7_restores k σ).bind (fun q7 =>
  if y0 = 0 then
  some ((-1000009), q7.2)
  else
  some (x2, q7.2))
def F_X7_minutesToSuspect_J63 (k : Nat) (x2 : Int32) (σ : xM) : Option (Int32 × xM) :=
  F_X7_minutesToSuspect_J64 k x2 0 σ
def F_X7_minutesToSuspect_J47 (k : Nat) (x1 : Int32) (x2 : Int32) (x3 : Int32) (σ : xM) : Option (Int32 × xM) :=
  (F_X7_isSuspect k x1 σ).bind (fun q5 =>
  if (bz q5.1) = 0 then
  F_X7_minutesToSuspect_J63 k x2 q5.2
  else
  if x3 < 0 then
  F_X7_minutesToSuspect_J63 k x2 q5.2
  else
  F_X7_minutesToSuspect_J64 k x2 1 q5.2)
def F_X7_minutesToSuspect_L19 (k : Nat) : Nat → Int32 → Int32 → Int32 → xM → Option (Int32 × xM)
  | 0, _, _, _, _ => none
  | N + 1, x1, x2, x3, σ =>
    if 1000 ≤ x2 then
    F_X7_minutesToSuspect_J47 k x1 x2 x3 σ
    else
    (F_X7_isSuspect k x1 σ).bind (fun q10 =>
    if (bz q10.1) = 0 then
    (F_X7_minute k q10.2).bind (fun q12 =>
    nm (x3 + q12.1) (fun x3_13 =>
    F_X7_minutesToSuspect_L19 k N x1 (x2 + 1) x3_13 q12.2))
    else
    F_X7_minutesToSuspect_J47 k x1 x2 x3 q10.2)
def F_X7_minutesToSuspect (k : Nat) (x1 : Int32) (σ : xM) : Option (Int32 × xM) :=
  (F_X7_isRoom k x1 σ).bind (fun q1 =>
  if (bz q1.1) = 0 then
  some ((-1000001), q1.2)
  else
  (F_X7_keeps k q1.2).bind (fun q3 =>
  F_X7_minutesToSuspect_L19 k FU x1 0 0 q3.2))
def F_X7_heated_L4 (k : Nat) : Nat → Int32 → Int32 → xM → Option (Int32 × xM)
  | 0, _, _, _ => none
  | N + 1, x1, x2, σ =>
    if inb 7 196 then
    if (σ (k + 1) (Int32.toNatClampNeg 7)) ≤ x2 then
    some (x1, σ)
    else
    (F_X7_of k x2 17 σ).bind (fun q3 =>
    nm (x1 + q3.1) (fun x1_4 =>
    F_X7_heated_L4 k N x1_4 (x2 + 1) q3.2))
    else none
def F_X7_heated (k : Nat) (σ : xM) : Option (Int32 × xM) :=
  F_X7_heated_L4 k FU 0 0 σ
def F_X7_heatIn_J41 (k : Nat) (x2 : Int32) (y0 : Int32) (σ : xM) : Option (Int32 × xM) :=
  (F_X7_restores k σ).bind (fun q8 =>
  some ((y0 - x2), q8.2))
def F_X7_heatIn (k : Nat) (x1 : Int32) (σ : xM) : Option (Int32 × xM) :=
  (F_X7_in x1 1 1000 σ).bind (fun q1 =>
  if (bz q1.1) = 0 then
  some ((-1000001), q1.2)
  else
  (F_X7_keeps k q1.2).bind (fun q3 =>
  (F_X7_heated k q3.2).bind (fun q4 =>
  (F_X7_minutes k x1 q4.2).bind (fun q5 =>
  if 0 ≤ q5.1 then
  (F_X7_heated k q5.2).bind (fun q7 =>
  F_X7_heatIn_J41 k q4.1 q7.1 q7.2)
  else
  F_X7_heatIn_J41 k q4.1 q4.1 q5.2))))
def F_X7_fined_J44 (k : Nat) (x4 : Int32) (y0 : Int32) (σ : xM) : Option (Int32 × xM) :=
  (F_X7_restores k σ).bind (fun q7 =>
  some ((y0 - x4), q7.2))
def F_X7_fined (k : Nat) (x1 : Int32) (x2 : Int32) (x3 : Int32) (σ : xM) : Option (Int32 × xM) :=
  (F_X7_keeps k σ).bind (fun q1 =>
  (F_X7_of k x1 12 q1.2).bind (fun q2 =>
  (F_X7_puts k x1 5 x2 q2.2).bind (fun q3 =>
  (F_X7_minutes k x3 q3.2).bind (fun q4 =>
  if 0 ≤ q4.1 then
  (F_X7_of k x1 12 q4.2).bind (fun q6 =>
  F_X7_fined_J44 k q2.1 q6.1 q6.2)
  else
  F_X7_fined_J44 k q2.1 q2.1 q4.2))))
def F_X7_finesWith (k : Nat) (x1 : Int32) (x2 : Int32) (x3 : Int32) (σ : xM) : Option (Int32 × xM) :=
  (F_X7_isRoom k x1 σ).bind (fun q1 =>
  if (bz q1.1) = 0 then
  some ((-1000001), q1.2)
  else
  (F_X7_in x2 100 5000 q1.2).bind (fun q3 =>
  if (bz q3.1) = 0 then
  some ((-1000001), q3.2)
  else
  (F_X7_in x3 1 1000 q3.2).bind (fun q5 =>
  if (bz q5.1) = 0 then
  some ((-1000001), q5.2)
  else
  (F_X7_fined k x1 x2 x3 q5.2).bind (fun q7 =>
  some (q7.1, q7.2)))))
def F_X7_quietBand_J48  (x3 : Int32) (σ : xM) : Option (Int32 × xM) :=
  if 5000 < x3 then
  some ((-1000009), σ)
  else
  some (x3, σ)
def F_X7_quietBand_L25 (k : Nat) : Nat → Int32 → Int32 → Int32 → xM → Option (Int32 × xM)
  | 0, _, _, _, _ => none
  | N + 1, x1, x2, x3, σ =>
    if 5000 < x3 then
    F_X7_quietBand_J48  x3 σ
    else
    (F_X7_fined k x1 x3 x2 σ).bind (fun q7 =>
    if q7.1 ≤ 0 then
    F_X7_quietBand_J48  x3 q7.2
    else
    F_X7_quietBand_L25 k N x1 x2 (x3 + 100) q7.2)
def F_X7_quietBand (k : Nat) (x1 : Int32) (x2 : Int32) (σ : xM) : Option (Int32 × xM) :=
  (F_X7_isRoom k x1 σ).bind (fun q1 =>
  if (bz q1.1) = 0 then
  some ((-1000001), q1.2)
  else
  (F_X7_in x2 1 300 q1.2).bind (fun q3 =>
  if (bz q3.1) = 0 then
  some ((-1000001), q3.2)
  else
  F_X7_quietBand_L25 k FU x1 x2 100 q3.2))
