noncomputable section
def F_X7_in (x0 : Int32) (x1 : Int32) (x2 : Int32) (σ : xM) : Option (Int32 × xM) :=
  if x0 < x1 then
  some (0, σ)
  else
  if x2 < x0 then
  some (0, σ)
  else
  some (1, σ)
def F_X7_notes_L52 (k : Nat) : Nat → Int32 → xM → Option (Unit × xM)
  | 0, _, _ => none
  | N + 1, v1, σ =>
    if 196 ≤ v1 then
    nm (xup σ k 2 ((σ k 2) + 1)) (fun σ3 =>
    some ((), σ3))
    else
    if inb v1 196 then
    if inb ((196 * (σ k 2)) + v1) 1176 then
    nm (xup σ (k + 2) (Int32.toNatClampNeg ((196 * (σ k 2)) + v1)) (σ (k + 1) (Int32.toNatClampNeg v1))) (fun σ6 =>
    F_X7_notes_L52 k N (v1 + 1) σ6)
    else none
    else none
def F_X7_notes_J50 (k : Nat)  (σ : xM) : Option (Unit × xM) :=
  F_X7_notes_L52 k FU 0 σ
def F_X7_notes_L11 (k : Nat) : Nat → Int32 → xM → Option (Unit × xM)
  | 0, _, _ => none
  | N + 1, v1, σ =>
    if 980 ≤ v1 then
    nm (xup σ k 2 ((σ k 2) - 1)) (fun σ8 =>
    F_X7_notes_J50 k  σ8)
    else
    if inb (v1 + 196) 1176 then
    if inb v1 1176 then
    nm (xup σ (k + 2) (Int32.toNatClampNeg v1) (σ (k + 2) (Int32.toNatClampNeg (v1 + 196)))) (fun σ11 =>
    F_X7_notes_L11 k N (v1 + 1) σ11)
    else none
    else none
def F_X7_notes (k : Nat) (σ : xM) : Option (Unit × xM) :=
  if (σ k 2) = 6 then
  F_X7_notes_L11 k FU 0 σ
  else
  F_X7_notes_J50 k  σ
def F_X7_undo_L22 (k : Nat) : Nat → Int32 → xM → Option (Int32 × xM)
  | 0, _, _ => none
  | N + 1, v1, σ =>
    if 196 ≤ v1 then
    some ((σ k 2), σ)
    else
    if inb ((196 * (σ k 2)) + v1) 1176 then
    if inb v1 196 then
    nm (xup σ (k + 1) (Int32.toNatClampNeg v1) (σ (k + 2) (Int32.toNatClampNeg ((196 * (σ k 2)) + v1)))) (fun σ6 =>
    F_X7_undo_L22 k N (v1 + 1) σ6)
    else none
    else none
def F_X7_undo (k : Nat) (σ : xM) : Option (Int32 × xM) :=
  if (σ k 2) = 0 then
  some ((-1000002), σ)
  else
  nm (xup σ k 2 ((σ k 2) - 1)) (fun σ2 =>
  F_X7_undo_L22 k FU 0 σ2)
def F_X7_isRoom (k : Nat) (x1 : Int32) (σ : xM) : Option (Int32 × xM) :=
  if inb 7 196 then
  (F_X7_in x1 0 ((σ (k + 1) (Int32.toNatClampNeg 7)) - 1) σ).bind (fun q2 =>
  some (q2.1, q2.2))
  else none
def F_X7_of (k : Nat) (x1 : Int32) (x2 : Int32) (σ : xM) : Option (Int32 × xM) :=
  if inb ((70 + (21 * x1)) + x2) 196 then
  some ((σ (k + 1) (Int32.toNatClampNeg ((70 + (21 * x1)) + x2))), σ)
  else none
def F_X7_puts (k : Nat) (x1 : Int32) (x2 : Int32) (x3 : Int32) (σ : xM) : Option (Unit × xM) :=
  if inb ((70 + (21 * x1)) + x2) 196 then
  nm (xup σ (k + 1) (Int32.toNatClampNeg ((70 + (21 * x1)) + x2)) x3) (fun σ2 =>
  some ((), σ2))
  else none
def F_X7_grows (k : Nat) (x1 : Int32) (x2 : Int32) (x3 : Int32) (σ : xM) : Option (Unit × xM) :=
  if inb ((70 + (21 * x1)) + x2) 196 then
  if inb ((70 + (21 * x1)) + x2) 196 then
  nm (xup σ (k + 1) (Int32.toNatClampNeg ((70 + (21 * x1)) + x2)) ((σ (k + 1) (Int32.toNatClampNeg ((70 + (21 * x1)) + x2))) + x3)) (fun σ3 =>
  some ((), σ3))
  else none
  else none
def F_X7_degrees (x0 : Int32) (x1 : Int32) (σ : xM) : Option (Int32 × xM) :=
  nm (1000 * x0) (fun x2_1 =>
  if 0 ≤ x2_1 then
  if x1 = 0 then none else
  some ((x2_1 / x1), σ)
  else
  if x1 = 0 then none else
  if (x2_1 - x2_1 / x1 * x1) = 0 then
  if x1 = 0 then none else
  some ((x2_1 / x1), σ)
  else
  if x1 = 0 then none else
  some (((x2_1 / x1) - 1), σ))
def F_X7_temperature (k : Nat) (x1 : Int32) (σ : xM) : Option (Int32 × xM) :=
  (F_X7_of k x1 1 σ).bind (fun q1 =>
  (F_X7_of k x1 0 q1.2).bind (fun q2 =>
  (F_X7_degrees q1.1 q2.1 q2.2).bind (fun q3 =>
  some (q3.1, q3.2))))
def F_X7_addRoom_J57 (k : Nat) (v1 : Int32) (v2 : Int32) (v3 : Int32) (v4 : Int32) (y0 : Int32) (σ : xM) : Option (Int32 × xM) :=
  if y0 = 0 then
  some ((-1000001), σ)
  else
  if inb 7 196 then
  if (σ (k + 1) (Int32.toNatClampNeg 7)) = 6 then
  some ((-1000003), σ)
  else
  (F_X7_notes k σ).bind (fun q6 =>
  if inb 7 196 then
  nm (q6.2 (k + 1) (Int32.toNatClampNeg 7)) (fun x6_8 =>
  if inb 7 196 then
  if inb 7 196 then
  nm (xup q6.2 (k + 1) (Int32.toNatClampNeg 7) ((q6.2 (k + 1) (Int32.toNatClampNeg 7)) + 1)) (fun σ11 =>
  (F_X7_puts k x6_8 0 v1 σ11).bind (fun q12 =>
  (F_X7_puts k x6_8 1 (v1 * v4) q12.2).bind (fun q13 =>
  (F_X7_puts k x6_8 2 v2 q13.2).bind (fun q14 =>
  (F_X7_puts k x6_8 3 v3 q14.2).bind (fun q15 =>
  (F_X7_puts k x6_8 4 20000 q15.2).bind (fun q16 =>
  (F_X7_puts k x6_8 5 1000 q16.2).bind (fun q17 =>
  (F_X7_puts k x6_8 6 (1000 * v4) q17.2).bind (fun q18 =>
  (F_X7_puts k x6_8 15 (-1000009) q18.2).bind (fun q19 =>
  (F_X7_puts k x6_8 16 (v1 * v4) q19.2).bind (fun q20 =>
  some (x6_8, q20.2)))))))))))
  else none
  else none)
  else none)
  else none
def F_X7_addRoom_J56 (k : Nat) (v1 : Int32) (v2 : Int32) (v3 : Int32) (v4 : Int32) (σ : xM) : Option (Int32 × xM) :=
  F_X7_addRoom_J57 k v1 v2 v3 v4 0 σ
def F_X7_addRoom (k : Nat) (x1 : Int32) (x2 : Int32) (x3 : Int32) (x4 : Int32) (σ : xM) : Option (Int32 × xM) :=
  (F_X7_in x1 10 500 σ).bind (fun q1 =>
  if (bz q1.1) = 0 then
  F_X7_addRoom_J56 k x1 x2 x3 x4 q1.2
  else
  (F_X7_in x2 1 200 q1.2).bind (fun q21 =>
  if (bz q21.1) = 0 then
  F_X7_addRoom_J56 k x1 x2 x3 x4 q21.2
  else
  (F_X7_in x3 0 50 q21.2).bind (fun q23 =>
  if (bz q23.1) = 0 then
  F_X7_addRoom_J56 k x1 x2 x3 x4 q23.2
  else
  if x1 < (2 * x3) then
  F_X7_addRoom_J56 k x1 x2 x3 x4 q23.2
  else
  (F_X7_in x4 (-40) 40 q23.2).bind (fun q26 =>
  if (bz q26.1) = 0 then
  F_X7_addRoom_J56 k x1 x2 x3 x4 q26.2
  else
  F_X7_addRoom_J57 k x1 x2 x3 x4 1 q26.2))))
def F_X7_areRooms (k : Nat) (x1 : Int32) (x2 : Int32) (σ : xM) : Option (Int32 × xM) :=
  (F_X7_isRoom k x1 σ).bind (fun q1 =>
  if (bz q1.1) = 0 then
  some (0, q1.2)
  else
  (F_X7_isRoom k x2 q1.2).bind (fun q3 =>
  if (bz q3.1) = 0 then
  some (0, q3.2)
  else
  if x1 = x2 then
  some (0, q3.2)
  else
  some (1, q3.2)))
def F_X7_drain_L9 (k : Nat) : Nat → Int32 → Int32 → Int32 → xM → Option (Int32 × xM)
  | 0, _, _, _, _ => none
  | N + 1, v1, v2, v3, σ =>
    if 6 ≤ v3 then
    some (v2, σ)
    else
    if inb ((34 + (6 * v1)) + v3) 196 then
    nm (v2 + (σ (k + 1) (Int32.toNatClampNeg ((34 + (6 * v1)) + v3)))) (fun x2_4 =>
    F_X7_drain_L9 k N v1 x2_4 (v3 + 1) σ)
    else none
def F_X7_drain (k : Nat) (x1 : Int32) (σ : xM) : Option (Int32 × xM) :=
  (F_X7_of k x1 3 σ).bind (fun q1 =>
  F_X7_drain_L9 k FU x1 q1.1 0 q1.2)
def F_X7_isTooMuch (k : Nat) (x1 : Int32) (x2 : Int32) (σ : xM) : Option (Int32 × xM) :=
  (F_X7_drain k x1 σ).bind (fun q1 =>
  (F_X7_of k x1 0 q1.2).bind (fun q2 =>
  if (2 * (q1.1 + x2)) ≤ q2.1 then
  some (0, q2.2)
  else
  some (1, q2.2)))
def F_X7_setLink (k : Nat) (x1 : Int32) (x2 : Int32) (x3 : Int32) (σ : xM) : Option (Int32 × xM) :=
  (F_X7_areRooms k x1 x2 σ).bind (fun q1 =>
  if (bz q1.1) = 0 then
  some ((-1000001), q1.2)
  else
  (F_X7_in x3 0 50 q1.2).bind (fun q3 =>
  if (bz q3.1) = 0 then
  some ((-1000001), q3.2)
  else
  if inb ((34 + (6 * x1)) + x2) 196 then
  nm (q3.2 (k + 1) (Int32.toNatClampNeg ((34 + (6 * x1)) + x2))) (fun x4_6 =>
  (F_X7_isTooMuch k x1 (x3 - x4_6) q3.2).bind (fun q7 =>
  if (bz q7.1) = 0 then
  (F_X7_isTooMuch k x2 (x3 - x4_6) q7.2).bind (fun q9 =>
  if (bz q9.1) = 0 then
  (F_X7_notes k q9.2).bind (fun q11 =>
  if inb ((34 + (6 * x1)) + x2) 196 then
  nm (xup q11.2 (k + 1) (Int32.toNatClampNeg ((34 + (6 * x1)) + x2)) x3) (fun σ13 =>
  if inb ((34 + (6 * x2)) + x1) 196 then
  nm (xup σ13 (k + 1) (Int32.toNatClampNeg ((34 + (6 * x2)) + x1)) x3) (fun σ15 =>
  some (x4_6, σ15))
  else none)
  else none)
  else
  some ((-1000002), q9.2))
  else
  some ((-1000002), q7.2)))
  else none))
def F_X7_link (k : Nat) (x1 : Int32) (x2 : Int32) (σ : xM) : Option (Int32 × xM) :=
  (F_X7_areRooms k x1 x2 σ).bind (fun q1 =>
  if (bz q1.1) = 0 then
  some ((-1000001), q1.2)
  else
  if inb ((34 + (6 * x1)) + x2) 196 then
  some ((q1.2 (k + 1) (Int32.toNatClampNeg ((34 + (6 * x1)) + x2))), q1.2)
  else none)
def F_X7_setThermostat_J64 (k : Nat) (v1 : Int32) (v2 : Int32) (v3 : Int32) (y0 : Int32) (σ : xM) : Option (Int32 × xM) :=
  (F_X7_puts k v1 4 v2 σ).bind (fun q10 =>
  (F_X7_puts k v1 5 v3 q10.2).bind (fun q11 =>
  if y0 = 0 then
  some (1, q11.2)
  else
  some (0, q11.2)))
def F_X7_setThermostat_J63 (k : Nat) (v1 : Int32) (v2 : Int32) (v3 : Int32) (σ : xM) : Option (Int32 × xM) :=
  F_X7_setThermostat_J64 k v1 v2 v3 0 σ
def F_X7_setThermostat (k : Nat) (x1 : Int32) (x2 : Int32) (x3 : Int32) (σ : xM) : Option (Int32 × xM) :=
  (F_X7_isRoom k x1 σ).bind (fun q1 =>
  if (bz q1.1) = 0 then
  some ((-1000001), q1.2)
  else
  (F_X7_in x2 5000 35000 q1.2).bind (fun q3 =>
  if (bz q3.1) = 0 then
  some ((-1000001), q3.2)
  else
  (F_X7_in x3 100 5000 q3.2).bind (fun q5 =>
  if (bz q5.1) = 0 then
  some ((-1000001), q5.2)
  else
  (F_X7_notes k q5.2).bind (fun q7 =>
  (F_X7_of k x1 4 q7.2).bind (fun q8 =>
  if q8.1 = x2 then
  (F_X7_of k x1 5 q8.2).bind (fun q13 =>
  if q13.1 = x3 then
  F_X7_setThermostat_J64 k x1 x2 x3 1 q13.2
  else
  F_X7_setThermostat_J63 k x1 x2 x3 q13.2)
  else
  F_X7_setThermostat_J63 k x1 x2 x3 q8.2)))))
def F_X7_isNumber (x0 : Int32) (x1 : Int32) (σ : xM) : Option (Int32 × xM) :=
  if x0 = 0 then
  (F_X7_in x1 1 100 σ).bind (fun q2 =>
  some (q2.1, q2.2))
  else if x0 = 1 then
  (F_X7_in x1 1 9999 σ).bind (fun q4 =>
  some (q4.1, q4.2))
  else if x0 = 2 then
  (F_X7_in x1 1 50 σ).bind (fun q6 =>
  some (q6.1, q6.2))
  else if x0 = 3 then
  (F_X7_in x1 0 120 σ).bind (fun q8 =>
  some (q8.1, q8.2))
  else if x0 = 4 then
  (F_X7_in x1 0 100 σ).bind (fun q10 =>
  some (q10.1, q10.2))
  else if x0 = 5 then
  (F_X7_in x1 20000 90000 σ).bind (fun q12 =>
  some (q12.1, q12.2))
  else if x0 = 6 then
  (F_X7_in x1 1 120 σ).bind (fun q14 =>
  some (q14.1, q14.2))
  else 
  some (0, σ)
def F_X7_setNumber (k : Nat) (x1 : Int32) (x2 : Int32) (σ : xM) : Option (Int32 × xM) :=
  (F_X7_isNumber x1 x2 σ).bind (fun q1 =>
  if (bz q1.1) = 0 then
  some ((-1000001), q1.2)
  else
  (F_X7_notes k q1.2).bind (fun q3 =>
  if inb x1 196 then
  nm (q3.2 (k + 1) (Int32.toNatClampNeg x1)) (fun x3_5 =>
  if inb x1 196 then
  nm (xup q3.2 (k + 1) (Int32.toNatClampNeg x1) x2) (fun σ7 =>
  some (x3_5, σ7))
  else none)
  else none))
def F_X7_warm_J81 (k : Nat) (v1 : Int32) (v2 : Int32) (σ : xM) : Option (Int32 × xM) :=
  (F_X7_notes k σ).bind (fun q11 =>
  (F_X7_grows k v1 1 v2 q11.2).bind (fun q12 =>
  (F_X7_grows k v1 20 v2 q12.2).bind (fun q13 =>
  (F_X7_temperature k v1 q13.2).bind (fun q14 =>
  some (q14.1, q14.2)))))
def F_X7_warm (k : Nat) (x1 : Int32) (x2 : Int32) (σ : xM) : Option (Int32 × xM) :=
  (F_X7_isRoom k x1 σ).bind (fun q1 =>
  if (bz q1.1) = 0 then
  some ((-1000001), q1.2)
  else
  (F_X7_in x2 (-50000) 50000 q1.2).bind (fun q3 =>
  if (bz q3.1) = 0 then
  some ((-1000001), q3.2)
  else
  (F_X7_of k x1 0 q3.2).bind (fun q5 =>
  nm (200 * ((q5.1).toInt64)) (fun j3_6 =>
  (F_X7_of k x1 1 q5.2).bind (fun q7 =>
  nm (((q7.1).toInt64) + ((x2).toInt64)) (fun j5_8 =>
  if (lg_cmp j5_8 (-j3_6)) < 0 then
  some ((-1000002), q7.2)
  else
  if (lg_cmp j5_8 j3_6) < 0 then
  F_X7_warm_J81 k x1 x2 q7.2
  else
  (F_X7_of k x1 0 q7.2).bind (fun q15 =>
  (F_X7_degrees ((j5_8).toInt32) q15.1 q15.2).bind (fun q16 =>
  if q16.1 ≤ 200000 then
  F_X7_warm_J81 k x1 x2 q16.2
  else
  some ((-1000002), q16.2)))))))))
def F_X7_service (k : Nat) (x1 : Int32) (σ : xM) : Option (Int32 × xM) :=
  (F_X7_isRoom k x1 σ).bind (fun q1 =>
  if (bz q1.1) = 0 then
  some ((-1000001), q1.2)
  else
  (F_X7_notes k q1.2).bind (fun q3 =>
  (F_X7_of k x1 9 q3.2).bind (fun q4 =>
  (F_X7_puts k x1 9 0 q4.2).bind (fun q5 =>
  (F_X7_puts k x1 10 0 q5.2).bind (fun q6 =>
  (F_X7_puts k x1 8 0 q6.2).bind (fun q7 =>
  (F_X7_puts k x1 7 0 q7.2).bind (fun q8 =>
  some (q4.1, q8.2))))))))
def F_X7_resetCutout (k : Nat) (x1 : Int32) (σ : xM) : Option (Int32 × xM) :=
  (F_X7_isRoom k x1 σ).bind (fun q1 =>
  if (bz q1.1) = 0 then
  some ((-1000001), q1.2)
  else
  (F_X7_of k x1 14 q1.2).bind (fun q3 =>
  if q3.1 = 0 then
  some ((-1000002), q3.2)
  else
  (F_X7_temperature k x1 q3.2).bind (fun q5 =>
  if inb 5 196 then
  if q5.1 ≤ (q5.2 (k + 1) (Int32.toNatClampNeg 5)) then
  (F_X7_notes k q5.2).bind (fun q8 =>
  (F_X7_puts k x1 14 0 q8.2).bind (fun q9 =>
  (F_X7_temperature k x1 q9.2).bind (fun q10 =>
  some (q10.1, q10.2))))
  else
  some ((-1000002), q5.2)
  else none)))
def F_X7_room (k : Nat) (x1 : Int32) (x2 : Int32) (σ : xM) : Option (Int32 × xM) :=
  (F_X7_isRoom k x1 σ).bind (fun q1 =>
  if (bz q1.1) = 0 then
  some ((-1000001), q1.2)
  else
  (F_X7_in x2 0 13 q1.2).bind (fun q3 =>
  if (bz q3.1) = 0 then
  some ((-1000001), q3.2)
  else
  if x2 = 0 then
  (F_X7_temperature k x1 q3.2).bind (fun q6 =>
  some (q6.1, q6.2))
  else if x2 = 1 then
  (F_X7_of k x1 1 q3.2).bind (fun q8 =>
  some (q8.1, q8.2))
  else if x2 = 12 then
  (F_X7_of k x1 4 q3.2).bind (fun q10 =>
  some (q10.1, q10.2))
  else if x2 = 13 then
  (F_X7_of k x1 5 q3.2).bind (fun q12 =>
  some (q12.1, q12.2))
  else 
  (F_X7_of k x1 ((6 + x2) - 2) q3.2).bind (fun q13 =>
  some (q13.1, q13.2))))
def F_X7_book (k : Nat) (x1 : Int32) (x2 : Int32) (σ : xM) : Option (Int32 × xM) :=
  (F_X7_isRoom k x1 σ).bind (fun q1 =>
  if (bz q1.1) = 0 then
  some ((-1000001), q1.2)
  else
  (F_X7_in x2 0 4 q1.2).bind (fun q3 =>
  if (bz q3.1) = 0 then
  some ((-1000001), q3.2)
  else
  (F_X7_of k x1 (16 + x2) q3.2).bind (fun q5 =>
  some (q5.1, q5.2))))
def F_X7_isSuspect (k : Nat) (x1 : Int32) (σ : xM) : Option (Int32 × xM) :=
  (F_X7_of k x1 13 σ).bind (fun q1 =>
  if inb 6 196 then
  if q1.1 < (q1.2 (k + 1) (Int32.toNatClampNeg 6)) then
  some (0, q1.2)
  else
  some (1, q1.2)
  else none)
def F_X7_count_L34 (k : Nat) : Nat → Int32 → Int32 → xM → Option (Int32 × xM)
  | 0, _, _, _ => none
  | N + 1, v2, v3, σ =>
    if inb 7 196 then
    if (σ (k + 1) (Int32.toNatClampNeg 7)) ≤ v3 then
    some (v2, σ)
    else
    (F_X7_isSuspect k v3 σ).bind (fun q4 =>
    if (bz q4.1) = 0 then
    nm (v2 + 0) (fun x2_6 =>
    F_X7_count_L34 k N x2_6 (v3 + 1) q4.2)
    else
    nm (v2 + 1) (fun x2_7 =>
    F_X7_count_L34 k N x2_7 (v3 + 1) q4.2))
    else none
def F_X7_count_L71 (k : Nat) : Nat → Int32 → Int32 → xM → Option (Int32 × xM)
  | 0, _, _, _ => none
  | N + 1, v2, v3, σ =>
    if inb 7 196 then
    if (σ (k + 1) (Int32.toNatClampNeg 7)) ≤ v3 then
    some (v2, σ)
    else
    (F_X7_of k v3 12 σ).bind (fun q11 =>
    nm (v2 + q11.1) (fun x2_12 =>
    F_X7_count_L71 k N x2_12 (v3 + 1) q11.2))
    else none
def F_X7_count (k : Nat) (x1 : Int32) (σ : xM) : Option (Int32 × xM) :=
  if x1 = 10 then
  F_X7_count_L34 k FU 0 0 σ
  else if x1 = 11 then
  F_X7_count_L71 k FU 0 0 σ
  else if x1 = 12 then
  some ((σ k 4), σ)
  else if x1 = 13 then
  some ((σ k 2), σ)
  else 
  (F_X7_in x1 0 9 σ).bind (fun q15 =>
  if (bz q15.1) = 0 then
  some ((-1000001), q15.2)
  else
  if inb x1 196 then
  some ((q15.2 (k + 1) (Int32.toNatClampNeg x1)), q15.2)
  else none)
def F_X7_appendCharacter (k : Nat) (x1 : Int32) (σ : xM) : Option (Int32 × xM) :=
  (F_X7_in x1 0 255 σ).bind (fun q1 =>
  if (bz q1.1) = 0 then
  some ((-1000001), q1.2)
  else
  if (q1.2 k 4) = 100 then
  some ((-1000003), q1.2)
  else
  if inb (q1.2 k 4) 100 then
  nm (xup q1.2 (k + 3) (Int32.toNatClampNeg (q1.2 k 4)) (vp_nar .byte ((x1).toInt8.toInt32))) (fun σ5 =>
  nm (xup σ5 k 4 ((σ5 k 4) + 1)) (fun σ6 =>
  some ((σ6 k 4), σ6)))
  else none)
def F_X7_clearText (k : Nat) (σ : xM) : Option (Int32 × xM) :=
  nm (σ k 4) (fun x1_1 =>
  nm (xup σ k 4 0) (fun σ2 =>
  some (x1_1, σ2)))
def F_X7_here_J38 (k : Nat)  (σ : xM) : Option (Int32 × xM) :=
  if (σ k 4) ≤ (σ k 8) then
  some ((-1), σ)
  else
  if inb (σ k 8) 100 then
  some (((σ (k + 3) (Int32.toNatClampNeg (σ k 8))) &&& 255), σ)
  else none
def F_X7_here_L0 (k : Nat) : Nat → xM → Option (Int32 × xM)
  | 0, _ => none
  | N + 1, σ =>
    if (σ k 4) ≤ (σ k 8) then
    F_X7_here_J38 k  σ
    else
    if inb (σ k 8) 100 then
    if (σ (k + 3) (Int32.toNatClampNeg (σ k 8))) = 32 then
    nm (xup σ k 8 ((σ k 8) + 1)) (fun σ10 =>
    F_X7_here_L0 k N  σ10)
    else
    F_X7_here_J38 k  σ
    else none
def F_X7_here (k : Nat) (σ : xM) : Option (Int32 × xM) :=
  if (σ k 4) ≤ (σ k 8) then
  F_X7_here_J38 k  σ
  else
  if inb (σ k 8) 100 then
  if (σ (k + 3) (Int32.toNatClampNeg (σ k 8))) = 32 then
  nm (xup σ k 8 ((σ k 8) + 1)) (fun σ6 =>
  F_X7_here_L0 k FU  σ6)
  else
  F_X7_here_J38 k  σ
  else none
def F_X7_reads_J218 (k : Nat) (v9 : Int32) (y0 : Int32) (σ : xM) : Option (Int32 × xM) :=
  nm (xup σ k 8 y0) (fun σ16 =>
  some (v9, σ16))
def F_X7_reads_J201 (k : Nat) (v5 : Int32) (y0 : Int32) (σ : xM) : Option (Int32 × xM) :=
  if (bz y0) = 0 then
  F_X7_reads_J218 k y0 v5 σ
  else
  F_X7_reads_J218 k y0 (σ k 8) σ
def F_X7_reads_J200 (k : Nat) (v5 : Int32) (σ : xM) : Option (Int32 × xM) :=
  F_X7_reads_J201 k v5 0 σ
def F_X7_reads_J184 (k : Nat) (v1 : Int32) (v2 : Int32) (v5 : Int32) (σ : xM) : Option (Int32 × xM) :=
  (F_X7_in (σ k 9) v1 v2 σ).bind (fun q13 =>
  if (bz q13.1) = 0 then
  F_X7_reads_J200 k v5 q13.2
  else
  F_X7_reads_J201 k v5 1 q13.2)
def F_X7_reads_J158 (k : Nat) (v1 : Int32) (v2 : Int32) (v5 : Int32) (v7 : Int32) (y0 : Int32) (σ : xM) : Option (Int32 × xM) :=
  nm (xup σ k 9 y0) (fun σ10 =>
  if inb v7 100 then
  if (σ10 (k + 3) (Int32.toNatClampNeg v7)) = 48 then
  if (σ10 k 8) = (v7 + 1) then
  F_X7_reads_J184 k v1 v2 v5 σ10
  else
  F_X7_reads_J200 k v5 σ10
  else
  F_X7_reads_J184 k v1 v2 v5 σ10
  else none)
def F_X7_reads_J133 (k : Nat) (v1 : Int32) (v2 : Int32) (v5 : Int32) (v6 : Int32) (v7 : Int32) (v8 : Int32) (σ : xM) : Option (Int32 × xM) :=
  if (σ k 8) = v7 then
  some (0, σ)
  else
  if v6 = 0 then
  F_X7_reads_J158 k v1 v2 v5 v7 v8 σ
  else
  F_X7_reads_J158 k v1 v2 v5 v7 (-v8) σ
def F_X7_reads_L58 (k : Nat) : Nat → Int32 → Int32 → Int32 → Int32 → Int32 → Int32 → xM → Option (Int32 × xM)
  | 0, _, _, _, _, _, _, _ => none
  | N + 1, v1, v2, v5, v6, v7, v8, σ =>
    if (σ k 4) ≤ (σ k 8) then
    F_X7_reads_J133 k v1 v2 v5 v6 v7 v8 σ
    else
    if inb (σ k 8) 100 then
    (F_X7_in (σ (k + 3) (Int32.toNatClampNeg (σ k 8))) 48 57 σ).bind (fun q19 =>
    if (bz q19.1) = 0 then
    F_X7_reads_J133 k v1 v2 v5 v6 v7 v8 q19.2
    else
    if 100000 ≤ v8 then
    nm (xup q19.2 k 8 ((q19.2 k 8) + 1)) (fun σ22 =>
    F_X7_reads_L58 k N v1 v2 v5 v6 v7 v8 σ22)
    else
    if inb (q19.2 k 8) 100 then
    nm (((10 * v8) + (q19.2 (k + 3) (Int32.toNatClampNeg (q19.2 k 8)))) - 48) (fun x8_24 =>
    nm (xup q19.2 k 8 ((q19.2 k 8) + 1)) (fun σ25 =>
    F_X7_reads_L58 k N v1 v2 v5 v6 v7 x8_24 σ25))
    else none)
    else none
def F_X7_reads_J45 (k : Nat) (v1 : Int32) (v2 : Int32) (v5 : Int32) (v6 : Int32) (y0 : Int32) (y1 : Int32) (σ : xM) : Option (Int32 × xM) :=
  nm (xup σ k 8 (y1 + y0)) (fun σ5 =>
  nm (σ5 k 8) (fun x7_6 =>
  F_X7_reads_L58 k FU v1 v2 v5 v6 x7_6 0 σ5))
def F_X7_reads_J28 (k : Nat) (v1 : Int32) (v2 : Int32) (v5 : Int32) (y0 : Int32) (σ : xM) : Option (Int32 × xM) :=
  if y0 = 0 then
  F_X7_reads_J45 k v1 v2 v5 y0 0 (σ k 8) σ
  else
  F_X7_reads_J45 k v1 v2 v5 y0 1 (σ k 8) σ
def F_X7_reads_J27 (k : Nat) (v1 : Int32) (v2 : Int32) (v5 : Int32) (σ : xM) : Option (Int32 × xM) :=
  F_X7_reads_J28 k v1 v2 v5 0 σ
def F_X7_reads (k : Nat) (x1 : Int32) (x2 : Int32) (x3 : Int32) (σ : xM) : Option (Int32 × xM) :=
  (F_X7_here k σ).bind (fun q1 =>
  nm (q1.2 k 8) (fun x5_2 =>
  if x3 = 0 then
  F_X7_reads_J27 k x1 x2 x5_2 q1.2
  else
  if q1.1 = 45 then
  F_X7_reads_J28 k x1 x2 x5_2 1 q1.2
  else
  F_X7_reads_J27 k x1 x2 x5_2 q1.2))
def F_X7_readsAll_L23 (k : Nat) : Nat → Int32 → xM → Option (Int32 × xM)
  | 0, _, _ => none
  | N + 1, v1, σ =>
    if v1 = 0 then
    some (1, σ)
    else
    if (σ k 7) = 0 then
    if (σ k 7) = 12 then
    (F_X7_reads k 100000 9999 0 σ).bind (fun q80 =>
    if (bz q80.1) = 0 then
    some (0, q80.2)
    else
    nm (q80.2 k 9) (fun x3_82 =>
    (F_X7_here k q80.2).bind (fun q83 =>
    if q83.1 = 61 then
    nm (xup q83.2 k 8 ((q83.2 k 8) + 1)) (fun σ85 =>
    (F_X7_reads k (-40) 40 1 σ85).bind (fun q86 =>
    if (bz q86.1) = 0 then
    some (0, q86.2)
    else
    if inb (2 * (q86.2 k 7)) 24 then
    nm (xup q86.2 (k + 5) (Int32.toNatClampNeg (2 * (q86.2 k 7))) x3_82) (fun σ89 =>
    if inb ((2 * (σ89 k 7)) + 1) 24 then
    nm (xup σ89 (k + 5) (Int32.toNatClampNeg ((2 * (σ89 k 7)) + 1)) (σ89 k 9)) (fun σ91 =>
    nm (xup σ91 k 7 ((σ91 k 7) + 1)) (fun σ92 =>
    (F_X7_here k σ92).bind (fun q93 =>
    if q93.1 < 0 then
    nm (xup q93.2 k 8 ((q93.2 k 8) + 0)) (fun σ97 =>
    F_X7_readsAll_L23 k N 0 σ97)
    else
    (F_X7_here k q93.2).bind (fun q99 =>
    if q99.1 = 59 then
    nm (xup q99.2 k 8 ((q99.2 k 8) + 1)) (fun σ102 =>
    F_X7_readsAll_L23 k N 1 σ102)
    else
    some (0, q99.2)))))
    else none)
    else none))
    else
    some (0, q83.2))))
    else
    (F_X7_reads k 0 9999 0 σ).bind (fun q57 =>
    if (bz q57.1) = 0 then
    some (0, q57.2)
    else
    nm (q57.2 k 9) (fun x3_59 =>
    (F_X7_here k q57.2).bind (fun q60 =>
    if q60.1 = 61 then
    nm (xup q60.2 k 8 ((q60.2 k 8) + 1)) (fun σ62 =>
    (F_X7_reads k (-40) 40 1 σ62).bind (fun q63 =>
    if (bz q63.1) = 0 then
    some (0, q63.2)
    else
    if inb (2 * (q63.2 k 7)) 24 then
    nm (xup q63.2 (k + 5) (Int32.toNatClampNeg (2 * (q63.2 k 7))) x3_59) (fun σ66 =>
    if inb ((2 * (σ66 k 7)) + 1) 24 then
    nm (xup σ66 (k + 5) (Int32.toNatClampNeg ((2 * (σ66 k 7)) + 1)) (σ66 k 9)) (fun σ68 =>
    nm (xup σ68 k 7 ((σ68 k 7) + 1)) (fun σ69 =>
    (F_X7_here k σ69).bind (fun q70 =>
    if q70.1 < 0 then
    nm (xup q70.2 k 8 ((q70.2 k 8) + 0)) (fun σ74 =>
    F_X7_readsAll_L23 k N 0 σ74)
    else
    (F_X7_here k q70.2).bind (fun q76 =>
    if q76.1 = 59 then
    nm (xup q76.2 k 8 ((q76.2 k 8) + 1)) (fun σ79 =>
    F_X7_readsAll_L23 k N 1 σ79)
    else
    some (0, q76.2)))))
    else none)
    else none))
    else
    some (0, q60.2))))
    else
    if inb ((2 * (σ k 7)) - 2) 24 then
    nm ((σ (k + 5) (Int32.toNatClampNeg ((2 * (σ k 7)) - 2))) + 1) (fun x2_8 =>
    if (σ k 7) = 12 then
    (F_X7_reads k 100000 9999 0 σ).bind (fun q33 =>
    if (bz q33.1) = 0 then
    some (0, q33.2)
    else
    nm (q33.2 k 9) (fun x3_35 =>
    (F_X7_here k q33.2).bind (fun q36 =>
    if q36.1 = 61 then
    nm (xup q36.2 k 8 ((q36.2 k 8) + 1)) (fun σ38 =>
    (F_X7_reads k (-40) 40 1 σ38).bind (fun q39 =>
    if (bz q39.1) = 0 then
    some (0, q39.2)
    else
    if inb (2 * (q39.2 k 7)) 24 then
    nm (xup q39.2 (k + 5) (Int32.toNatClampNeg (2 * (q39.2 k 7))) x3_35) (fun σ42 =>
    if inb ((2 * (σ42 k 7)) + 1) 24 then
    nm (xup σ42 (k + 5) (Int32.toNatClampNeg ((2 * (σ42 k 7)) + 1)) (σ42 k 9)) (fun σ44 =>
    nm (xup σ44 k 7 ((σ44 k 7) + 1)) (fun σ45 =>
    (F_X7_here k σ45).bind (fun q46 =>
    if q46.1 < 0 then
    nm (xup q46.2 k 8 ((q46.2 k 8) + 0)) (fun σ50 =>
    F_X7_readsAll_L23 k N 0 σ50)
    else
    (F_X7_here k q46.2).bind (fun q52 =>
    if q52.1 = 59 then
    nm (xup q52.2 k 8 ((q52.2 k 8) + 1)) (fun σ55 =>
    F_X7_readsAll_L23 k N 1 σ55)
    else
    some (0, q52.2)))))
    else none)
    else none))
    else
    some (0, q36.2))))
    else
    (F_X7_reads k x2_8 9999 0 σ).bind (fun q10 =>
    if (bz q10.1) = 0 then
    some (0, q10.2)
    else
    nm (q10.2 k 9) (fun x3_12 =>
    (F_X7_here k q10.2).bind (fun q13 =>
    if q13.1 = 61 then
    nm (xup q13.2 k 8 ((q13.2 k 8) + 1)) (fun σ15 =>
    (F_X7_reads k (-40) 40 1 σ15).bind (fun q16 =>
    if (bz q16.1) = 0 then
    some (0, q16.2)
    else
    if inb (2 * (q16.2 k 7)) 24 then
    nm (xup q16.2 (k + 5) (Int32.toNatClampNeg (2 * (q16.2 k 7))) x3_12) (fun σ19 =>
    if inb ((2 * (σ19 k 7)) + 1) 24 then
    nm (xup σ19 (k + 5) (Int32.toNatClampNeg ((2 * (σ19 k 7)) + 1)) (σ19 k 9)) (fun σ21 =>
    nm (xup σ21 k 7 ((σ21 k 7) + 1)) (fun σ22 =>
    (F_X7_here k σ22).bind (fun q23 =>
    if q23.1 < 0 then
    nm (xup q23.2 k 8 ((q23.2 k 8) + 0)) (fun σ27 =>
    F_X7_readsAll_L23 k N 0 σ27)
    else
    (F_X7_here k q23.2).bind (fun q29 =>
    if q29.1 = 59 then
    nm (xup q29.2 k 8 ((q29.2 k 8) + 1)) (fun σ32 =>
    F_X7_readsAll_L23 k N 1 σ32)
    else
    some (0, q29.2)))))
    else none)
    else none))
    else
    some (0, q13.2)))))
    else none
def F_X7_readsAll_J22 (k : Nat) (y0 : Int32) (σ : xM) : Option (Int32 × xM) :=
  F_X7_readsAll_L23 k FU y0 σ
def F_X7_readsAll (k : Nat) (σ : xM) : Option (Int32 × xM) :=
  nm (xup σ k 8 0) (fun σ1 =>
  nm (xup σ1 k 7 0) (fun σ2 =>
  (F_X7_here k σ2).bind (fun q3 =>
  if q3.1 < 0 then
  F_X7_readsAll_J22 k 0 q3.2
  else
  F_X7_readsAll_J22 k 1 q3.2)))
def F_X7_load_L32 (k : Nat) : Nat → Int32 → xM → Option (Int32 × xM)
  | 0, _, _ => none
  | N + 1, v1, σ =>
    if 24 ≤ v1 then
    nm (xup σ k 4 0) (fun σ7 =>
    some ((σ7 k 7), σ7))
    else
    if (2 * (σ k 7)) ≤ v1 then
    if inb (10 + v1) 196 then
    nm (xup σ (k + 1) (Int32.toNatClampNeg (10 + v1)) 0) (fun σ10 =>
    F_X7_load_L32 k N (v1 + 1) σ10)
    else none
    else
    if inb v1 24 then
    if inb (10 + v1) 196 then
    nm (xup σ (k + 1) (Int32.toNatClampNeg (10 + v1)) (σ (k + 5) (Int32.toNatClampNeg v1))) (fun σ13 =>
    F_X7_load_L32 k N (v1 + 1) σ13)
    else none
    else none
def F_X7_load (k : Nat) (σ : xM) : Option (Int32 × xM) :=
  (F_X7_readsAll k σ).bind (fun q1 =>
  if (bz q1.1) = 0 then
  some (((-10) - (q1.2 k 8)), q1.2)
  else
  (F_X7_notes k q1.2).bind (fun q3 =>
  if inb 9 196 then
  nm (xup q3.2 (k + 1) (Int32.toNatClampNeg 9) (q3.2 k 7)) (fun σ5 =>
  F_X7_load_L32 k FU 0 σ5)
  else none))
def F_X7_air_J51 (k : Nat) (v2 : Int32) (v3 : Int32) (σ : xM) : Option (Int32 × xM) :=
  if v3 = 0 then
  if inb ((10 + (2 * 0)) + 1) 196 then
  some ((1000 * (σ (k + 1) (Int32.toNatClampNeg ((10 + (2 * 0)) + 1)))), σ)
  else none
  else
  if inb ((10 + (2 * (v2 - 1))) + 1) 196 then
  some ((1000 * (σ (k + 1) (Int32.toNatClampNeg ((10 + (2 * (v2 - 1))) + 1)))), σ)
  else none
def F_X7_air_J36 (k : Nat) (v1 : Int32) (v2 : Int32) (v3 : Int32) (σ : xM) : Option (Int32 × xM) :=
  if v2 = 0 then
  some (0, σ)
  else
  if v3 = 0 then
  F_X7_air_J51 k v2 v3 σ
  else
  if v3 = v2 then
  F_X7_air_J51 k v2 v3 σ
  else
  nm ((10 + (2 * v3)) - 2) (fun x4_10 =>
  if inb (x4_10 + 1) 196 then
  if inb (x4_10 + 3) 196 then
  if inb (x4_10 + 1) 196 then
  if inb x4_10 196 then
  if inb (x4_10 + 2) 196 then
  if inb x4_10 196 then
  if ((σ (k + 1) (Int32.toNatClampNeg (x4_10 + 2))) - (σ (k + 1) (Int32.toNatClampNeg x4_10))) = 0 then none else
  some (((1000 * (σ (k + 1) (Int32.toNatClampNeg (x4_10 + 1)))) + (((1000 * ((σ (k + 1) (Int32.toNatClampNeg (x4_10 + 3))) - (σ (k + 1) (Int32.toNatClampNeg (x4_10 + 1))))) * (v1 - (σ (k + 1) (Int32.toNatClampNeg x4_10)))) / ((σ (k + 1) (Int32.toNatClampNeg (x4_10 + 2))) - (σ (k + 1) (Int32.toNatClampNeg x4_10))))), σ)
  else none
  else none
  else none
  else none
  else none
  else none)
def F_X7_air_L10 (k : Nat) : Nat → Int32 → Int32 → Int32 → xM → Option (Int32 × xM)
  | 0, _, _, _, _ => none
  | N + 1, v1, v2, v3, σ =>
    if v2 ≤ v3 then
    F_X7_air_J36 k v1 v2 v3 σ
    else
    if inb (10 + (2 * v3)) 196 then
    if v1 < (σ (k + 1) (Int32.toNatClampNeg (10 + (2 * v3)))) then
    F_X7_air_J36 k v1 v2 v3 σ
    else
    F_X7_air_L10 k N v1 v2 (v3 + 1) σ
    else none
def F_X7_air (k : Nat) (x1 : Int32) (σ : xM) : Option (Int32 × xM) :=
  if inb 9 196 then
  nm (σ (k + 1) (Int32.toNatClampNeg 9)) (fun x2_2 =>
  F_X7_air_L10 k FU x1 x2_2 0 σ)
  else none
def F_X7_outside (k : Nat) (x1 : Int32) (σ : xM) : Option (Int32 × xM) :=
  (F_X7_in x1 0 20000 σ).bind (fun q1 =>
  if (bz q1.1) = 0 then
  some ((-1000001), q1.2)
  else
  (F_X7_air k x1 q1.2).bind (fun q3 =>
  some (q3.1, q3.2)))
def F_X7_flows_L59 (k : Nat) : Nat → Int32 → Int32 → Int32 → Int32 → Int32 → xM → Option (Unit × xM)
  | 0, _, _, _, _, _, _ => none
  | N + 1, v1, v3, v4, v5, v6, σ =>
    if inb 7 196 then
    if (σ (k + 1) (Int32.toNatClampNeg 7)) ≤ v6 then
    (F_X7_grows k v1 1 ((v3 - v4) - v5) σ).bind (fun q8 =>
    (F_X7_grows k v1 17 v3 q8.2).bind (fun q9 =>
    (F_X7_grows k v1 18 v4 q9.2).bind (fun q10 =>
    (F_X7_grows k v1 19 v5 q10.2).bind (fun q11 =>
    some ((), q11.2)))))
    else
    if inb ((34 + (6 * v1)) + v6) 196 then
    if inb v1 6 then
    if inb v6 6 then
    nm (v5 + (((σ (k + 1) (Int32.toNatClampNeg ((34 + (6 * v1)) + v6))) * ((σ (k + 6) (Int32.toNatClampNeg v1)) - (σ (k + 6) (Int32.toNatClampNeg v6)))) / 1000)) (fun x5_15 =>
    F_X7_flows_L59 k N v1 v3 v4 x5_15 (v6 + 1) σ)
    else none
    else none
    else none
    else none
def F_X7_flows_J31 (k : Nat) (v1 : Int32) (v2 : Int32) (y0 : Int32) (σ : xM) : Option (Unit × xM) :=
  (F_X7_of k v1 3 σ).bind (fun q3 =>
  if inb v1 6 then
  nm ((q3.1 * ((q3.2 (k + 6) (Int32.toNatClampNeg v1)) - v2)) / 1000) (fun x4_5 =>
  F_X7_flows_L59 k FU v1 y0 x4_5 0 0 q3.2)
  else none)
def F_X7_flows_J30 (k : Nat) (v1 : Int32) (v2 : Int32) (σ : xM) : Option (Unit × xM) :=
  F_X7_flows_J31 k v1 v2 0 σ
def F_X7_flows (k : Nat) (x1 : Int32) (x2 : Int32) (σ : xM) : Option (Unit × xM) :=
  (F_X7_of k x1 7 σ).bind (fun q1 =>
  if q1.1 = 1 then
  (F_X7_of k x1 14 q1.2).bind (fun q16 =>
  if q16.1 = 0 then
  (F_X7_of k x1 2 q16.2).bind (fun q18 =>
  F_X7_flows_J31 k x1 x2 q18.1 q18.2)
  else
  F_X7_flows_J30 k x1 x2 q16.2)
  else
  F_X7_flows_J30 k x1 x2 q1.2)
def F_X7_closes_J123 (k : Nat) (v1 : Int32) (y0 : Int32) (y1 : Int32) (y2 : Int32) (σ : xM) : Option (Unit × xM) :=
  (F_X7_grows k y2 y1 y0 σ).bind (fun q13 =>
  if inb 8 196 then
  (F_X7_puts k v1 15 (q13.2 (k + 1) (Int32.toNatClampNeg 8)) q13.2).bind (fun q15 =>
  some ((), q15.2))
  else none)
def F_X7_closes_J104 (k : Nat) (v1 : Int32) (y0 : Int32) (σ : xM) : Option (Unit × xM) :=
  if y0 = 0 then
  F_X7_closes_J123 k v1 0 12 v1 σ
  else
  if inb 4 196 then
  F_X7_closes_J123 k v1 (σ (k + 1) (Int32.toNatClampNeg 4)) 12 v1 σ
  else none
def F_X7_closes_J103 (k : Nat) (v1 : Int32) (σ : xM) : Option (Unit × xM) :=
  F_X7_closes_J104 k v1 0 σ
def F_X7_closes_J60 (k : Nat) (v1 : Int32) (y0 : Int32) (y1 : Int32) (y2 : Int32) (σ : xM) : Option (Unit × xM) :=
  (F_X7_puts k y2 y1 y0 σ).bind (fun q9 =>
  (F_X7_of k v1 15 q9.2).bind (fun q10 =>
  if q10.1 = (-1000009) then
  F_X7_closes_J103 k v1 q10.2
  else
  if inb 8 196 then
  (F_X7_of k v1 15 q10.2).bind (fun q18 =>
  if inb 3 196 then
  if (q18.2 (k + 1) (Int32.toNatClampNeg 3)) ≤ ((q10.2 (k + 1) (Int32.toNatClampNeg 8)) - q18.1) then
  F_X7_closes_J103 k v1 q18.2
  else
  F_X7_closes_J104 k v1 1 q18.2
  else none)
  else none))
def F_X7_closes (k : Nat) (x1 : Int32) (σ : xM) : Option (Unit × xM) :=
  (F_X7_puts k x1 7 1 σ).bind (fun q1 =>
  (F_X7_grows k x1 11 1 q1.2).bind (fun q2 =>
  (F_X7_of k x1 2 q2.2).bind (fun q3 =>
  (F_X7_grows k x1 9 q3.1 q3.2).bind (fun q4 =>
  (F_X7_of k x1 9 q4.2).bind (fun q5 =>
  if inb 1 196 then
  if q5.1 < (q5.2 (k + 1) (Int32.toNatClampNeg 1)) then
  (F_X7_of k x1 8 q5.2).bind (fun q8 =>
  F_X7_closes_J60 k x1 q8.1 8 x1 q8.2)
  else
  F_X7_closes_J60 k x1 1 8 x1 q5.2
  else none)))))
def F_X7_opens_J69 (k : Nat) (v1 : Int32) (σ : xM) : Option (Int32 × xM) :=
  (F_X7_puts k v1 7 0 σ).bind (fun q3 =>
  some (1, q3.2))
def F_X7_opens (k : Nat) (x1 : Int32) (σ : xM) : Option (Int32 × xM) :=
  (F_X7_of k x1 8 σ).bind (fun q1 =>
  if q1.1 = 1 then
  (F_X7_grows k x1 10 1 q1.2).bind (fun q4 =>
  (F_X7_of k x1 10 q4.2).bind (fun q5 =>
  if inb 2 196 then
  if (q5.2 (k + 1) (Int32.toNatClampNeg 2)) ≤ q5.1 then
  (F_X7_puts k x1 8 0 q5.2).bind (fun q8 =>
  (F_X7_puts k x1 10 0 q8.2).bind (fun q9 =>
  (F_X7_of k x1 9 q9.2).bind (fun q10 =>
  (F_X7_puts k x1 9 (q10.1 / 2) q10.2).bind (fun q11 =>
  F_X7_opens_J69 k x1 q11.2))))
  else
  some (0, q5.2)
  else none))
  else
  F_X7_opens_J69 k x1 q1.2)
def F_X7_turns_J189 (k : Nat) (v5 : Int32) (y0 : Int32) (y1 : Int32) (y2 : Int32) (σ : xM) : Option (Int32 × xM) :=
  (F_X7_puts k y2 y1 y0 σ).bind (fun q19 =>
  some (v5, q19.2))
def F_X7_turns_J188 (k : Nat) (v5 : Int32) (y0 : Int32) (y1 : Int32) (σ : xM) : Option (Int32 × xM) :=
  F_X7_turns_J189 k v5 0 y0 y1 σ
def F_X7_turns_J156 (k : Nat) (v1 : Int32) (v4 : Int32) (v5 : Int32) (σ : xM) : Option (Int32 × xM) :=
  (F_X7_of k v1 7 σ).bind (fun q17 =>
  if q17.1 = 1 then
  if v4 = 0 then
  F_X7_turns_J188 k v5 13 v1 q17.2
  else
  (F_X7_of k v1 13 q17.2).bind (fun q21 =>
  F_X7_turns_J189 k v5 (q21.1 + 1) 13 v1 q21.2)
  else
  F_X7_turns_J188 k v5 13 v1 q17.2)
def F_X7_turns_J133 (k : Nat) (v1 : Int32) (v4 : Int32) (v5 : Int32) (σ : xM) : Option (Int32 × xM) :=
  (F_X7_of k v1 7 σ).bind (fun q15 =>
  if q15.1 = 1 then
  if v4 = 0 then
  F_X7_turns_J156 k v1 v4 v5 q15.2
  else
  (F_X7_opens k v1 q15.2).bind (fun q23 =>
  F_X7_turns_J156 k v1 v4 q23.1 q23.2)
  else
  F_X7_turns_J156 k v1 v4 v5 q15.2)
def F_X7_turns_J90 (k : Nat) (v1 : Int32) (v3 : Int32) (y0 : Int32) (σ : xM) : Option (Int32 × xM) :=
  (F_X7_of k v1 7 σ).bind (fun q13 =>
  if q13.1 = 0 then
  (F_X7_of k v1 4 q13.2).bind (fun q24 =>
  (F_X7_of k v1 5 q24.2).bind (fun q25 =>
  if (q24.1 - q25.1) < v3 then
  F_X7_turns_J133 k v1 y0 0 q25.2
  else
  (F_X7_closes k v1 q25.2).bind (fun q27 =>
  F_X7_turns_J156 k v1 y0 1 q27.2)))
  else
  F_X7_turns_J133 k v1 y0 0 q13.2)
def F_X7_turns_J31 (k : Nat) (v1 : Int32) (v2 : Int32) (y0 : Int32) (y1 : Int32) (y2 : Int32) (σ : xM) : Option (Int32 × xM) :=
  (F_X7_puts k y2 y1 y0 σ).bind (fun q5 =>
  (F_X7_of k v1 6 q5.2).bind (fun q6 =>
  if inb 0 196 then
  (F_X7_grows k v1 6 (((v2 - q6.1) * (q6.2 (k + 1) (Int32.toNatClampNeg 0))) / 100) q6.2).bind (fun q8 =>
  (F_X7_of k v1 6 q8.2).bind (fun q9 =>
  (F_X7_of k v1 4 q9.2).bind (fun q10 =>
  (F_X7_of k v1 5 q10.2).bind (fun q11 =>
  if q9.1 < (q10.1 + q11.1) then
  F_X7_turns_J90 k v1 q9.1 0 q11.2
  else
  F_X7_turns_J90 k v1 q9.1 1 q11.2))))
  else none))
def F_X7_turns (k : Nat) (x1 : Int32) (σ : xM) : Option (Int32 × xM) :=
  (F_X7_temperature k x1 σ).bind (fun q1 =>
  if inb 5 196 then
  if q1.1 ≤ (q1.2 (k + 1) (Int32.toNatClampNeg 5)) then
  (F_X7_of k x1 14 q1.2).bind (fun q4 =>
  F_X7_turns_J31 k x1 q1.1 q4.1 14 x1 q4.2)
  else
  F_X7_turns_J31 k x1 q1.1 1 14 x1 q1.2
  else none)
def F_X7_minute_L71 (k : Nat) : Nat → Int32 → Int32 → xM → Option (Int32 × xM)
  | 0, _, _, _ => none
  | N + 1, v2, v3, σ =>
    if inb 7 196 then
    if (σ (k + 1) (Int32.toNatClampNeg 7)) ≤ v3 then
    if inb 8 196 then
    if inb 8 196 then
    nm (xup σ (k + 1) (Int32.toNatClampNeg 8) ((σ (k + 1) (Int32.toNatClampNeg 8)) + 1)) (fun σ11 =>
    some (v2, σ11))
    else none
    else none
    else
    (F_X7_turns k v3 σ).bind (fun q12 =>
    nm (v2 + q12.1) (fun x2_13 =>
    F_X7_minute_L71 k N x2_13 (v3 + 1) q12.2))
    else none
def F_X7_minute_L44 (k : Nat) : Nat → Int32 → Int32 → xM → Option (Int32 × xM)
  | 0, _, _, _ => none
  | N + 1, v1, v2, σ =>
    if inb 7 196 then
    if (σ (k + 1) (Int32.toNatClampNeg 7)) ≤ v2 then
    F_X7_minute_L71 k FU 0 0 σ
    else
    (F_X7_flows k v2 v1 σ).bind (fun q14 =>
    F_X7_minute_L44 k N v1 (v2 + 1) q14.2)
    else none
def F_X7_minute_L14 (k : Nat) : Nat → Int32 → Int32 → xM → Option (Int32 × xM)
  | 0, _, _, _ => none
  | N + 1, v1, v2, σ =>
    if inb 7 196 then
    if (σ (k + 1) (Int32.toNatClampNeg 7)) ≤ v2 then
    F_X7_minute_L44 k FU v1 0 σ
    else
    (F_X7_temperature k v2 σ).bind (fun q15 =>
    if inb v2 6 then
    nm (xup q15.2 (k + 6) (Int32.toNatClampNeg v2) q15.1) (fun σ17 =>
    F_X7_minute_L14 k N v1 (v2 + 1) σ17)
    else none)
    else none
def F_X7_minute (k : Nat) (σ : xM) : Option (Int32 × xM) :=
  if inb 8 196 then
  (F_X7_air k (σ (k + 1) (Int32.toNatClampNeg 8)) σ).bind (fun q2 =>
  F_X7_minute_L14 k FU q2.1 0 q2.2)
  else none
def F_X7_minutes_L4 (k : Nat) : Nat → Int32 → Int32 → Int32 → xM → Option (Int32 × xM)
  | 0, _, _, _, _ => none
  | N + 1, v1, v2, v3, σ =>
    if v1 ≤ v3 then
    some (v2, σ)
    else
    (F_X7_minute k σ).bind (fun q2 =>
    nm (v2 + q2.1) (fun x2_3 =>
    F_X7_minutes_L4 k N v1 x2_3 (v3 + 1) q2.2))
def F_X7_minutes (k : Nat) (x1 : Int32) (σ : xM) : Option (Int32 × xM) :=
  F_X7_minutes_L4 k FU x1 0 0 σ
def F_X7_pass (k : Nat) (x1 : Int32) (σ : xM) : Option (Int32 × xM) :=
  (F_X7_in x1 1 500 σ).bind (fun q1 =>
  if (bz q1.1) = 0 then
  some ((-1000001), q1.2)
  else
  if inb 7 196 then
  if (q1.2 (k + 1) (Int32.toNatClampNeg 7)) = 0 then
  some ((-1000002), q1.2)
  else
  if inb 8 196 then
  if ((q1.2 (k + 1) (Int32.toNatClampNeg 8)) + x1) ≤ 20000 then
  (F_X7_notes k q1.2).bind (fun q7 =>
  (F_X7_minutes k x1 q7.2).bind (fun q8 =>
  some (q8.1, q8.2)))
  else
  some ((-1000003), q1.2)
  else none
  else none)
def F_X7_keeps_L2 (k : Nat) : Nat → Int32 → xM → Option (Unit × xM)
  | 0, _, _ => none
  | N + 1, v1, σ =>
    if 196 ≤ v1 then
    some ((), σ)
    else
    if inb v1 196 then
    if inb v1 196 then
    nm (xup σ (k + 4) (Int32.toNatClampNeg v1) (σ (k + 1) (Int32.toNatClampNeg v1))) (fun σ4 =>
    F_X7_keeps_L2 k N (v1 + 1) σ4)
    else none
    else none
def F_X7_keeps (k : Nat) (σ : xM) : Option (Unit × xM) :=
  F_X7_keeps_L2 k FU 0 σ
def F_X7_restores_L2 (k : Nat) : Nat → Int32 → xM → Option (Unit × xM)
  | 0, _, _ => none
  | N + 1, v1, σ =>
    if 196 ≤ v1 then
    some ((), σ)
    else
    if inb v1 196 then
    if inb v1 196 then
    nm (xup σ (k + 1) (Int32.toNatClampNeg v1) (σ (k + 4) (Int32.toNatClampNeg v1))) (fun σ4 =>
    F_X7_restores_L2 k N (v1 + 1) σ4)
    else none
    else none
def F_X7_restores (k : Nat) (σ : xM) : Option (Unit × xM) :=
  F_X7_restores_L2 k FU 0 σ
def F_X7_minutesToSuspect_J64 (k : Nat) (v2 : Int32) (y0 : Int32) (σ : xM) : Option (Int32 × xM) :=
  (F_X7_restores k σ).bind (fun q7 =>
  if y0 = 0 then
  some ((-1000009), q7.2)
  else
  some (v2, q7.2))
def F_X7_minutesToSuspect_J63 (k : Nat) (v2 : Int32) (σ : xM) : Option (Int32 × xM) :=
  F_X7_minutesToSuspect_J64 k v2 0 σ
def F_X7_minutesToSuspect_J47 (k : Nat) (v1 : Int32) (v2 : Int32) (v3 : Int32) (σ : xM) : Option (Int32 × xM) :=
  (F_X7_isSuspect k v1 σ).bind (fun q5 =>
  if (bz q5.1) = 0 then
  F_X7_minutesToSuspect_J63 k v2 q5.2
  else
  if v3 < 0 then
  F_X7_minutesToSuspect_J63 k v2 q5.2
  else
  F_X7_minutesToSuspect_J64 k v2 1 q5.2)
def F_X7_minutesToSuspect_L19 (k : Nat) : Nat → Int32 → Int32 → Int32 → xM → Option (Int32 × xM)
  | 0, _, _, _, _ => none
  | N + 1, v1, v2, v3, σ =>
    if 1000 ≤ v2 then
    F_X7_minutesToSuspect_J47 k v1 v2 v3 σ
    else
    (F_X7_isSuspect k v1 σ).bind (fun q10 =>
    if (bz q10.1) = 0 then
    (F_X7_minute k q10.2).bind (fun q12 =>
    nm (v3 + q12.1) (fun x3_13 =>
    F_X7_minutesToSuspect_L19 k N v1 (v2 + 1) x3_13 q12.2))
    else
    F_X7_minutesToSuspect_J47 k v1 v2 v3 q10.2)
def F_X7_minutesToSuspect (k : Nat) (x1 : Int32) (σ : xM) : Option (Int32 × xM) :=
  (F_X7_isRoom k x1 σ).bind (fun q1 =>
  if (bz q1.1) = 0 then
  some ((-1000001), q1.2)
  else
  (F_X7_keeps k q1.2).bind (fun q3 =>
  F_X7_minutesToSuspect_L19 k FU x1 0 0 q3.2))
def F_X7_heated_L4 (k : Nat) : Nat → Int32 → Int32 → xM → Option (Int32 × xM)
  | 0, _, _, _ => none
  | N + 1, v1, v2, σ =>
    if inb 7 196 then
    if (σ (k + 1) (Int32.toNatClampNeg 7)) ≤ v2 then
    some (v1, σ)
    else
    (F_X7_of k v2 17 σ).bind (fun q3 =>
    nm (v1 + q3.1) (fun x1_4 =>
    F_X7_heated_L4 k N x1_4 (v2 + 1) q3.2))
    else none
def F_X7_heated (k : Nat) (σ : xM) : Option (Int32 × xM) :=
  F_X7_heated_L4 k FU 0 0 σ
def F_X7_heatIn_J41 (k : Nat) (v2 : Int32) (y0 : Int32) (σ : xM) : Option (Int32 × xM) :=
  (F_X7_restores k σ).bind (fun q8 =>
  some ((y0 - v2), q8.2))
def F_X7_heatIn (k : Nat) (x1 : Int32) (σ : xM) : Option (Int32 × xM) :=
  (F_X7_in x1 1 1000 σ).bind (fun q1 =>
  if (bz q1.1) = 0 then
  some ((-1000001), q1.2)
  else
  (F_X7_keeps k q1.2).bind (fun q3 =>
  (F_X7_heated k q3.2).bind (fun q4 =>
  (F_X7_minutes k x1 q4.2).bind (fun q5 =>
  if 0 ≤ q5.1 then
  (F_X7_heated k q5.2).bind (fun q7 =>
  F_X7_heatIn_J41 k q4.1 q7.1 q7.2)
  else
  F_X7_heatIn_J41 k q4.1 q4.1 q5.2))))
def F_X7_fined_J44 (k : Nat) (v4 : Int32) (y0 : Int32) (σ : xM) : Option (Int32 × xM) :=
  (F_X7_restores k σ).bind (fun q7 =>
  some ((y0 - v4), q7.2))
def F_X7_fined (k : Nat) (x1 : Int32) (x2 : Int32) (x3 : Int32) (σ : xM) : Option (Int32 × xM) :=
  (F_X7_keeps k σ).bind (fun q1 =>
  (F_X7_of k x1 12 q1.2).bind (fun q2 =>
  (F_X7_puts k x1 5 x2 q2.2).bind (fun q3 =>
  (F_X7_minutes k x3 q3.2).bind (fun q4 =>
  if 0 ≤ q4.1 then
  (F_X7_of k x1 12 q4.2).bind (fun q6 =>
  F_X7_fined_J44 k q2.1 q6.1 q6.2)
  else
  F_X7_fined_J44 k q2.1 q2.1 q4.2))))
def F_X7_finesWith (k : Nat) (x1 : Int32) (x2 : Int32) (x3 : Int32) (σ : xM) : Option (Int32 × xM) :=
  (F_X7_isRoom k x1 σ).bind (fun q1 =>
  if (bz q1.1) = 0 then
  some ((-1000001), q1.2)
  else
  (F_X7_in x2 100 5000 q1.2).bind (fun q3 =>
  if (bz q3.1) = 0 then
  some ((-1000001), q3.2)
  else
  (F_X7_in x3 1 1000 q3.2).bind (fun q5 =>
  if (bz q5.1) = 0 then
  some ((-1000001), q5.2)
  else
  (F_X7_fined k x1 x2 x3 q5.2).bind (fun q7 =>
  some (q7.1, q7.2)))))
def F_X7_quietBand_J48  (v3 : Int32) (σ : xM) : Option (Int32 × xM) :=
  if 5000 < v3 then
  some ((-1000009), σ)
  else
  some (v3, σ)
def F_X7_quietBand_L25 (k : Nat) : Nat → Int32 → Int32 → Int32 → xM → Option (Int32 × xM)
  | 0, _, _, _, _ => none
  | N + 1, v1, v2, v3, σ =>
    if 5000 < v3 then
    F_X7_quietBand_J48  v3 σ
    else
    (F_X7_fined k v1 v3 v2 σ).bind (fun q7 =>
    if q7.1 ≤ 0 then
    F_X7_quietBand_J48  v3 q7.2
    else
    F_X7_quietBand_L25 k N v1 v2 (v3 + 100) q7.2)
def F_X7_quietBand (k : Nat) (x1 : Int32) (x2 : Int32) (σ : xM) : Option (Int32 × xM) :=
  (F_X7_isRoom k x1 σ).bind (fun q1 =>
  if (bz q1.1) = 0 then
  some ((-1000001), q1.2)
  else
  (F_X7_in x2 1 300 q1.2).bind (fun q3 =>
  if (bz q3.1) = 0 then
  some ((-1000001), q3.2)
  else
  F_X7_quietBand_L25 k FU x1 x2 100 q3.2))
end
