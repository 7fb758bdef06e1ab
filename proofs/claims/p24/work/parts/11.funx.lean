noncomputable section
def F_X0_begin (k : Nat) (x1 : Int32) (σ : xM) : Option (Unit × xM) :=
  nm (xup σ k 0 x1) (fun σ1 =>
  nm (xup σ1 k 1 0) (fun σ2 =>
  nm (xup σ2 k 2 0) (fun σ3 =>
  nm (xup σ3 k 3 0) (fun σ4 =>
  nm (xup σ4 k 4 0) (fun σ5 =>
  some ((), σ5))))))
def F_X0_copyFrom (k : Nat) (r1 : Nat) (σ : xM) : Option (Unit × xM) :=
  nm (xup σ k 0 (σ r1 0)) (fun σ1 =>
  nm (xup σ1 k 1 (σ1 r1 1)) (fun σ2 =>
  nm (xup σ2 k 2 (σ2 r1 2)) (fun σ3 =>
  nm (xup σ3 k 3 (σ3 r1 3)) (fun σ4 =>
  nm (xup σ4 k 4 (σ4 r1 4)) (fun σ5 =>
  some ((), σ5))))))
def F_X0_sum (k : Nat) (x1 : Int32) (σ : xM) : Option (Int32 × xM) :=
  if x1 = 0 then
  some ((σ k 0), σ)
  else if x1 = 1 then
  some ((σ k 1), σ)
  else if x1 = 2 then
  some ((σ k 2), σ)
  else if x1 = 3 then
  some ((σ k 3), σ)
  else if x1 = 4 then
  some ((σ k 4), σ)
  else 
  some ((-1000001), σ)
def F_X4_copyFrom (k : Nat) (r1 : Nat) (σ : xM) : Option (Unit × xM) :=
  nm (xcp σ (r1 + 1) (k + 1) 12) (fun σ1 =>
  nm (xcp σ1 (r1 + 2) (k + 2) 12) (fun σ2 =>
  nm (xup σ2 k 2 (σ2 r1 2)) (fun σ3 =>
  some ((), σ3))))
def F_X1_roomAt (k : Nat) (x1 : Int32) (σ : xM) : Option (Option Nat × xM) :=
  if x1 < 0 then
  some (none, σ)
  else
  if (σ k 4) ≤ x1 then
  some (none, σ)
  else
  if 6 ≤ x1 then
  some (none, σ)
  else
  if inb x1 6 then
  some (some ((k + 2) + 5 + 2 * Int32.toNatClampNeg x1), σ)
  else none
def F_X3_copyFrom (k : Nat) (r1 : Nat) (σ : xM) : Option (Unit × xM) :=
  (F_X0_copyFrom (k + 1) (r1 + 1) σ).bind (fun q1 =>
  nm (xup q1.2 k 1 (q1.2 r1 1)) (fun σ2 =>
  nm (xup σ2 k 2 (σ2 r1 2)) (fun σ3 =>
  nm (xup σ3 k 3 (σ3 r1 3)) (fun σ4 =>
  nm (xup σ4 k 4 (σ4 r1 4)) (fun σ5 =>
  nm (xup σ5 k 5 (σ5 r1 5)) (fun σ6 =>
  nm (xup σ6 k 6 (σ6 r1 6)) (fun σ7 =>
  nm (xup σ7 k 7 (σ7 r1 7)) (fun σ8 =>
  nm (xup σ8 k 8 (σ8 r1 8)) (fun σ9 =>
  nm (xup σ9 k 9 (σ9 r1 9)) (fun σ10 =>
  nm (xup σ10 k 10 (σ10 r1 10)) (fun σ11 =>
  nm (xup σ11 k 11 (σ11 r1 11)) (fun σ12 =>
  nm (xup σ12 k 12 (σ12 r1 12)) (fun σ13 =>
  nm (xup σ13 k 13 (σ13 r1 13)) (fun σ14 =>
  nm (xup σ14 k 14 (σ14 r1 14)) (fun σ15 =>
  nm (xup σ15 k 15 (σ15 r1 15)) (fun σ16 =>
  nm (xup σ16 k 16 (σ16 r1 16)) (fun σ17 =>
  nm (xup σ17 k 17 (σ17 r1 17)) (fun σ18 =>
  some ((), σ18)))))))))))))))))))
def F_X1_copyFrom_L59 (k : Nat) (r1 : Nat) : Nat → Int32 → xM → Option (Unit × xM)
  | 0, _, _ => none
  | N + 1, v2, σ =>
    if (σ k 4) ≤ v2 then
    some ((), σ)
    else
    (F_X1_roomAt k v2 σ).bind (fun q7 =>
    oc q7.1 (
    (F_X1_roomAt r1 v2 q7.2).bind (fun q9 =>
    oc q9.1 (
    F_X1_copyFrom_L59 k r1 N (v2 + 1) q9.2)
    (fun r10 =>
    if kd r10 = 3 then
    F_X1_copyFrom_L59 k r1 N (v2 + 1) q9.2
    else none)))
    (fun r8 =>
    if kd r8 = 3 then
    (F_X1_roomAt r1 v2 q7.2).bind (fun q11 =>
    oc q11.1 (
    F_X1_copyFrom_L59 k r1 N (v2 + 1) q11.2)
    (fun r12 =>
    if kd r12 = 3 then
    (F_X3_copyFrom r8 r12 q11.2).bind (fun q13 =>
    F_X1_copyFrom_L59 k r1 N (v2 + 1) q13.2)
    else none))
    else none))
def F_X1_copyFrom (k : Nat) (r1 : Nat) (σ : xM) : Option (Unit × xM) :=
  nm (xcp σ (r1 + 1) (k + 1) 7) (fun σ1 =>
  nm (xcp σ1 (r1 + 3) (k + 3) 36) (fun σ2 =>
  (F_X4_copyFrom (k + 4) (r1 + 4) σ2).bind (fun q3 =>
  nm (xup q3.2 k 4 (q3.2 r1 4)) (fun σ4 =>
  nm (xup σ4 k 5 (σ4 r1 5)) (fun σ5 =>
  F_X1_copyFrom_L59 k r1 FU 0 σ5)))))
def F_X1_number (k : Nat) (x1 : Int32) (σ : xM) : Option (Int32 × xM) :=
  if x1 < 0 then
  some (0, σ)
  else
  if 7 ≤ x1 then
  some (0, σ)
  else
  if inb x1 7 then
  some ((σ (k + 1) (Int32.toNatClampNeg x1)), σ)
  else none
def F_X1_putNumber (k : Nat) (x1 : Int32) (x2 : Int32) (σ : xM) : Option (Unit × xM) :=
  if x1 < 0 then
  some ((), σ)
  else
  if 7 ≤ x1 then
  some ((), σ)
  else
  if inb x1 7 then
  nm (xup σ (k + 1) (Int32.toNatClampNeg x1) x2) (fun σ4 =>
  some ((), σ4))
  else none
def F_J9_floorDiv_7cf53 (x0 : Int32) (x1 : Int32) (σ : xM) : Option (Int32 × xM) :=
  if x1 = 0 then none else
  nm (x0 / x1) (fun x2_1 =>
  if 0 ≤ (x0 ^^^ x1) then
  some (x2_1, σ)
  else
  if (x2_1 * x1) = x0 then
  some (x2_1, σ)
  else
  some ((x2_1 - 1), σ))
def F_X3_temperatureWith (k : Nat) (x1 : Int32) (σ : xM) : Option (Int32 × xM) :=
  if (σ k 1) ≤ 0 then
  some (0, σ)
  else
  (F_J9_floorDiv_7cf53 (1000 * x1) (σ k 1) σ).bind (fun q2 =>
  some (q2.1, q2.2))
def F_X3_temperature (k : Nat) (σ : xM) : Option (Int32 × xM) :=
  (F_X3_temperatureWith k (σ k 4) σ).bind (fun q1 =>
  some (q1.1, q1.2))
def F_X3_begin (k : Nat) (x1 : Int32) (x2 : Int32) (x3 : Int32) (x4 : Int32) (σ : xM) : Option (Unit × xM) :=
  nm (xup σ k 1 x1) (fun σ1 =>
  nm (xup σ1 k 2 x2) (fun σ2 =>
  nm (xup σ2 k 3 x3) (fun σ3 =>
  nm (xup σ3 k 4 (x1 * x4)) (fun σ4 =>
  nm (xup σ4 k 5 20000) (fun σ5 =>
  nm (xup σ5 k 6 1000) (fun σ6 =>
  (F_X3_temperature k σ6).bind (fun q7 =>
  nm (xup q7.2 k 7 q7.1) (fun σ8 =>
  nm (xup σ8 k 8 0) (fun σ9 =>
  nm (xup σ9 k 9 0) (fun σ10 =>
  nm (xup σ10 k 10 0) (fun σ11 =>
  nm (xup σ11 k 11 0) (fun σ12 =>
  nm (xup σ12 k 12 0) (fun σ13 =>
  nm (xup σ13 k 13 0) (fun σ14 =>
  nm (xup σ14 k 14 (-1000009)) (fun σ15 =>
  nm (xup σ15 k 15 0) (fun σ16 =>
  nm (xup σ16 k 16 0) (fun σ17 =>
  nm (xup σ17 k 17 0) (fun σ18 =>
  (F_X0_begin (k + 1) (σ18 k 4) σ18).bind (fun q19 =>
  some ((), q19.2))))))))))))))))))))
def F_X1_beginRoom (k : Nat) (x1 : Int32) (x2 : Int32) (x3 : Int32) (x4 : Int32) (σ : xM) : Option (Int32 × xM) :=
  nm (σ k 4) (fun x5_1 =>
  nm (xup σ k 4 ((σ k 4) + 1)) (fun σ2 =>
  (F_X1_roomAt k x5_1 σ2).bind (fun q3 =>
  oc q3.1 (
  some (x5_1, q3.2))
  (fun r4 =>
  if kd r4 = 3 then
  (F_X3_begin r4 x1 x2 x3 x4 q3.2).bind (fun q5 =>
  some (x5_1, q5.2))
  else none))))
def F_X1_hasPair (k : Nat) (x1 : Int32) (x2 : Int32) (σ : xM) : Option (Int32 × xM) :=
  if x1 = x2 then
  some (0, σ)
  else
  (F_X1_roomAt k x1 σ).bind (fun q2 =>
  oc q2.1 (
  some (0, q2.2))
  (fun r3 =>
  if kd r3 = 3 then
  (F_X1_roomAt k x2 q2.2).bind (fun q4 =>
  oc q4.1 (
  some (0, q4.2))
  (fun r5 =>
  if kd r5 = 3 then
  some (1, q4.2)
  else none))
  else none))
def F_X1_linkPlace (x0 : Int32) (x1 : Int32) (σ : xM) : Option (Int32 × xM) :=
  some (((x0 * 6) + x1), σ)
def F_X1_linkOf (k : Nat) (x1 : Int32) (x2 : Int32) (σ : xM) : Option (Int32 × xM) :=
  (F_X1_linkPlace x1 x2 σ).bind (fun q1 =>
  if q1.1 < 0 then
  some (0, q1.2)
  else
  if 36 ≤ q1.1 then
  some (0, q1.2)
  else
  if inb q1.1 36 then
  some ((q1.2 (k + 3) (Int32.toNatClampNeg q1.1)), q1.2)
  else none)
def F_X1_putLinkAt (k : Nat) (x1 : Int32) (x2 : Int32) (σ : xM) : Option (Unit × xM) :=
  if x1 < 0 then
  some ((), σ)
  else
  if 36 ≤ x1 then
  some ((), σ)
  else
  if inb x1 36 then
  nm (xup σ (k + 3) (Int32.toNatClampNeg x1) x2) (fun σ4 =>
  some ((), σ4))
  else none
def F_X1_putLink (k : Nat) (x1 : Int32) (x2 : Int32) (x3 : Int32) (σ : xM) : Option (Unit × xM) :=
  (F_X1_linkPlace x1 x2 σ).bind (fun q1 =>
  (F_X1_putLinkAt k q1.1 x3 q1.2).bind (fun q2 =>
  (F_X1_linkPlace x2 x1 q2.2).bind (fun q3 =>
  (F_X1_putLinkAt k q3.1 x3 q3.2).bind (fun q4 =>
  some ((), q4.2)))))
def F_X1_canCarry_L23 (k : Nat) : Nat → Int32 → Nat → Int32 → Int32 → xM → Option (Int32 × xM)
  | 0, _, _, _, _, _ => none
  | N + 1, v1, u3, v4, v5, σ =>
    if (σ k 4) ≤ v5 then
    if ((σ u3 1) / 2) < v4 then
    some (0, σ)
    else
    some (1, σ)
    else
    (F_X1_linkOf k v1 v5 σ).bind (fun q6 =>
    nm (v4 + q6.1) (fun x4_7 =>
    F_X1_canCarry_L23 k N v1 u3 x4_7 (v5 + 1) q6.2))
def F_X1_canCarry (k : Nat) (x1 : Int32) (x2 : Int32) (σ : xM) : Option (Int32 × xM) :=
  (F_X1_roomAt k x1 σ).bind (fun q1 =>
  oc q1.1 (
  some (0, q1.2))
  (fun r2 =>
  if kd r2 = 3 then
  nm ((q1.2 r2 3) + x2) (fun x4_3 =>
  F_X1_canCarry_L23 k FU x1 r2 x4_3 0 q1.2)
  else none))
def F_X1_isSuspect (k : Nat) (r1 : Nat) (σ : xM) : Option (Int32 × xM) :=
  (F_X1_number k 6 σ).bind (fun q1 =>
  if (σ r1 16) < q1.1 then
  some (0, q1.2)
  else
  some (1, q1.2))
def F_X1_suspectRooms_L4 (k : Nat) : Nat → Int32 → Int32 → xM → Option (Int32 × xM)
  | 0, _, _, _ => none
  | N + 1, v1, v2, σ =>
    if (σ k 4) ≤ v2 then
    some (v1, σ)
    else
    (F_X1_roomAt k v2 σ).bind (fun q2 =>
    oc q2.1 (
    nm (v1 + 0) (fun x1_4 =>
    F_X1_suspectRooms_L4 k N x1_4 (v2 + 1) q2.2))
    (fun r3 =>
    if kd r3 = 3 then
    (F_X1_isSuspect k r3 q2.2).bind (fun q5 =>
    if (bz q5.1) = 0 then
    nm (v1 + 0) (fun x1_7 =>
    F_X1_suspectRooms_L4 k N x1_7 (v2 + 1) q5.2)
    else
    nm (v1 + 1) (fun x1_8 =>
    F_X1_suspectRooms_L4 k N x1_8 (v2 + 1) q5.2))
    else none))
def F_X1_suspectRooms (k : Nat) (σ : xM) : Option (Int32 × xM) :=
  F_X1_suspectRooms_L4 k FU 0 0 σ
def F_X1_allFines_L4 (k : Nat) : Nat → Int32 → Int32 → xM → Option (Int32 × xM)
  | 0, _, _, _ => none
  | N + 1, v1, v2, σ =>
    if (σ k 4) ≤ v2 then
    some (v1, σ)
    else
    (F_X1_roomAt k v2 σ).bind (fun q2 =>
    oc q2.1 (
    nm (v1 + 0) (fun x1_4 =>
    F_X1_allFines_L4 k N x1_4 (v2 + 1) q2.2))
    (fun r3 =>
    if kd r3 = 3 then
    nm (v1 + (q2.2 r3 15)) (fun x1_5 =>
    F_X1_allFines_L4 k N x1_5 (v2 + 1) q2.2)
    else none))
def F_X1_allFines (k : Nat) (σ : xM) : Option (Int32 × xM) :=
  F_X1_allFines_L4 k FU 0 0 σ
def F_X1_heatFromHeaters_L4 (k : Nat) : Nat → Int32 → Int32 → xM → Option (Int32 × xM)
  | 0, _, _, _ => none
  | N + 1, v1, v2, σ =>
    if (σ k 4) ≤ v2 then
    some (v1, σ)
    else
    (F_X1_roomAt k v2 σ).bind (fun q2 =>
    oc q2.1 (
    nm (v1 + 0) (fun x1_4 =>
    F_X1_heatFromHeaters_L4 k N x1_4 (v2 + 1) q2.2))
    (fun r3 =>
    if kd r3 = 3 then
    nm (v1 + (q2.2 (r3 + 1) 1)) (fun x1_5 =>
    F_X1_heatFromHeaters_L4 k N x1_5 (v2 + 1) q2.2)
    else none))
def F_X1_heatFromHeaters (k : Nat) (σ : xM) : Option (Int32 × xM) :=
  F_X1_heatFromHeaters_L4 k FU 0 0 σ
def F_X4_temperatureBefore (k : Nat) (x1 : Int32) (x2 : Int32) (σ : xM) : Option (Int32 × xM) :=
  if x1 < 1 then
  some (0, σ)
  else
  if x1 < 12 then
  if inb (x1 - 1) 12 then
  nm (σ (k + 2) (Int32.toNatClampNeg (x1 - 1))) (fun x3_4 =>
  if inb x1 12 then
  if inb (x1 - 1) 12 then
  nm ((σ (k + 1) (Int32.toNatClampNeg x1)) - (σ (k + 1) (Int32.toNatClampNeg (x1 - 1)))) (fun x4_7 =>
  if inb (x1 - 1) 12 then
  nm (x2 - (σ (k + 1) (Int32.toNatClampNeg (x1 - 1)))) (fun x5_9 =>
  if x4_7 = 0 then
  some ((1000 * x3_4), σ)
  else
  if inb x1 12 then
  if x4_7 = 0 then none else
  some (((1000 * x3_4) + (((1000 * ((σ (k + 2) (Int32.toNatClampNeg x1)) - x3_4)) * x5_9) / x4_7)), σ)
  else none)
  else none)
  else none
  else none)
  else none
  else
  some (0, σ)
def F_X4_temperatureAt_L4 (k : Nat) : Nat → Int32 → Int32 → Int32 → xM → Option (Int32 × xM)
  | 0, _, _, _, _ => none
  | N + 1, v1, v2, v3, σ =>
    if (σ k 2) ≤ v3 then
    some (v2, σ)
    else
    if 12 ≤ v3 then
    some (v2, σ)
    else
    if inb v3 12 then
    if (σ (k + 1) (Int32.toNatClampNeg v3)) ≤ v1 then
    if inb v3 12 then
    nm (1000 * (σ (k + 2) (Int32.toNatClampNeg v3))) (fun x2_6 =>
    F_X4_temperatureAt_L4 k N v1 x2_6 (v3 + 1) σ)
    else none
    else
    if v3 = 0 then
    if inb 0 12 then
    some ((1000 * (σ (k + 2) (Int32.toNatClampNeg 0))), σ)
    else none
    else
    (F_X4_temperatureBefore k v3 v1 σ).bind (fun q8 =>
    some (q8.1, q8.2))
    else none
def F_X4_temperatureAt (k : Nat) (x1 : Int32) (σ : xM) : Option (Int32 × xM) :=
  F_X4_temperatureAt_L4 k FU x1 0 0 σ
def F_X3_beginMinute_J51 (k : Nat) (v1 : Int32) (σ : xM) : Option (Unit × xM) :=
  nm (((σ k 3) * ((σ k 17) - v1)) / 1000) (fun x2_4 =>
  nm (xup σ k 4 ((σ k 4) - x2_4)) (fun σ5 =>
  nm (xup σ5 (k + 1) 2 ((σ5 (k + 1) 2) + x2_4)) (fun σ6 =>
  some ((), σ6))))
def F_X3_beginMinute (k : Nat) (x1 : Int32) (σ : xM) : Option (Unit × xM) :=
  (F_X3_temperature k σ).bind (fun q1 =>
  nm (xup q1.2 k 17 q1.1) (fun σ2 =>
  if (bz (σ2 k 8)) = 0 then
  F_X3_beginMinute_J51 k x1 σ2
  else
  if (bz (σ2 k 10)) = 0 then
  nm (xup σ2 k 4 ((σ2 k 4) + (σ2 k 2))) (fun σ8 =>
  nm (xup σ8 (k + 1) 1 ((σ8 (k + 1) 1) + (σ8 k 2))) (fun σ9 =>
  F_X3_beginMinute_J51 k x1 σ9))
  else
  F_X3_beginMinute_J51 k x1 σ2))
def F_X1_heatRooms_L14 (k : Nat) : Nat → Int32 → Int32 → xM → Option (Unit × xM)
  | 0, _, _, _ => none
  | N + 1, v1, v2, σ =>
    if (σ k 4) ≤ v2 then
    some ((), σ)
    else
    (F_X1_roomAt k v2 σ).bind (fun q3 =>
    oc q3.1 (
    F_X1_heatRooms_L14 k N v1 (v2 + 1) q3.2)
    (fun r4 =>
    if kd r4 = 3 then
    (F_X3_beginMinute r4 v1 q3.2).bind (fun q5 =>
    F_X1_heatRooms_L14 k N v1 (v2 + 1) q5.2)
    else none))
def F_X1_heatRooms (k : Nat) (σ : xM) : Option (Unit × xM) :=
  (F_X4_temperatureAt (k + 4) (σ k 5) σ).bind (fun q1 =>
  F_X1_heatRooms_L14 k FU q1.1 0 q1.2)
def F_X3_giveToOthers (k : Nat) (x1 : Int32) (σ : xM) : Option (Unit × xM) :=
  nm (xup σ k 4 ((σ k 4) - x1)) (fun σ1 =>
  nm (xup σ1 (k + 1) 3 ((σ1 (k + 1) 3) + x1)) (fun σ2 =>
  some ((), σ2)))
def F_X1_exchangeHeat_LL (k : Nat) : Nat → Nat → Int32 → Int32 → xM → Option (Unit × xM)
  | 0, _, _, _, _ => none
  | N + 1, t, v1, v2, σ =>
  if t = 2 then
    if (σ k 4) ≤ v1 then
    some ((), σ)
    else
    nm (v1 + 1) (fun x2_2 =>
    F_X1_exchangeHeat_LL k N 14 v1 x2_2 σ)
  else
    if (σ k 4) ≤ v2 then
    F_X1_exchangeHeat_LL k N 2 (v1 + 1) 0 σ
    else
    (F_X1_roomAt k v1 σ).bind (fun q4 =>
    oc q4.1 (
    (F_X1_roomAt k v2 q4.2).bind (fun q6 =>
    oc q6.1 (
    F_X1_exchangeHeat_LL k N 14 v1 (v2 + 1) q6.2)
    (fun r7 =>
    if kd r7 = 3 then
    F_X1_exchangeHeat_LL k N 14 v1 (v2 + 1) q6.2
    else none)))
    (fun r5 =>
    if kd r5 = 3 then
    (F_X1_roomAt k v2 q4.2).bind (fun q8 =>
    oc q8.1 (
    F_X1_exchangeHeat_LL k N 14 v1 (v2 + 1) q8.2)
    (fun r9 =>
    if kd r9 = 3 then
    nm ((q8.2 r5 17) - (q8.2 r9 17)) (fun x5_10 =>
    (F_X1_linkOf k v1 v2 q8.2).bind (fun q11 =>
    nm ((q11.1 * x5_10) / 1000) (fun x6_12 =>
    (F_X3_giveToOthers r5 x6_12 q11.2).bind (fun q13 =>
    (F_X3_giveToOthers r9 (-x6_12) q13.2).bind (fun q14 =>
    F_X1_exchangeHeat_LL k N 14 v1 (v2 + 1) q14.2)))))
    else none))
    else none))
def F_X1_exchangeHeat (k : Nat) (σ : xM) : Option (Unit × xM) :=
  F_X1_exchangeHeat_LL k FU 2 0 0 σ
def F_X3_isBladeCold (k : Nat) (σ : xM) : Option (Int32 × xM) :=
  if ((σ k 5) - (σ k 6)) < (σ k 7) then
  some (0, σ)
  else
  some (1, σ)
def F_X1_close_J38 (k : Nat) (r1 : Nat)  (σ : xM) : Option (Unit × xM) :=
  nm (xup σ r1 8 1) (fun σ2 =>
  nm (xup σ2 r1 13 ((σ2 r1 13) + 1)) (fun σ3 =>
  nm (xup σ3 r1 14 (σ3 k 5)) (fun σ4 =>
  nm (xup σ4 r1 11 ((σ4 r1 11) + (σ4 r1 2))) (fun σ5 =>
  (F_X1_number k 1 σ5).bind (fun q6 =>
  if (σ5 r1 11) < q6.1 then
  some ((), q6.2)
  else
  nm (xup q6.2 r1 9 1) (fun σ8 =>
  some ((), σ8)))))))
def F_X1_close (k : Nat) (r1 : Nat) (σ : xM) : Option (Unit × xM) :=
  if (σ r1 13) ≤ 0 then
  F_X1_close_J38 k r1  σ
  else
  (F_X1_number k 3 σ).bind (fun q9 =>
  if q9.1 ≤ ((σ k 5) - (σ r1 14)) then
  F_X1_close_J38 k r1  q9.2
  else
  (F_X1_number k 4 q9.2).bind (fun q11 =>
  nm (xup q11.2 r1 15 ((q9.2 r1 15) + q11.1)) (fun σ12 =>
  F_X1_close_J38 k r1  σ12)))
def F_X3_isBladeHot (k : Nat) (σ : xM) : Option (Int32 × xM) :=
  if (σ k 7) < ((σ k 5) + (σ k 6)) then
  some (0, σ)
  else
  some (1, σ)
def F_X3_tryToOpen (k : Nat) (x1 : Int32) (σ : xM) : Option (Unit × xM) :=
  if (bz (σ k 9)) = 0 then
  nm (xup σ k 8 0) (fun σ8 =>
  some ((), σ8))
  else
  nm (xup σ k 12 ((σ k 12) + 1)) (fun σ2 =>
  if (σ2 k 12) < x1 then
  some ((), σ2)
  else
  nm (xup σ2 k 8 0) (fun σ4 =>
  nm (xup σ4 k 9 0) (fun σ5 =>
  nm (xup σ5 k 12 0) (fun σ6 =>
  nm (xup σ6 k 11 ((σ6 k 11) / 2)) (fun σ7 =>
  some ((), σ7))))))
def F_X1_settle_J118 (r1 : Nat) (v2 : Int32) (y0 : Int32) (σ : xM) : Option (Int32 × xM) :=
  nm (xup σ r1 16 y0) (fun σ9 =>
  if (bz (σ9 r1 8)) = v2 then
  some (0, σ9)
  else
  some (1, σ9))
def F_X1_settle_J117 (r1 : Nat) (v2 : Int32) (σ : xM) : Option (Int32 × xM) :=
  F_X1_settle_J118 r1 v2 0 σ
def F_X1_settle_J93 (r1 : Nat) (v2 : Int32) (σ : xM) : Option (Int32 × xM) :=
  if (bz (σ r1 8)) = 0 then
  F_X1_settle_J117 r1 v2 σ
  else
  (F_X3_isBladeHot r1 σ).bind (fun q11 =>
  if (bz q11.1) = 0 then
  F_X1_settle_J117 r1 v2 q11.2
  else
  F_X1_settle_J118 r1 v2 ((q11.2 r1 16) + 1) q11.2)
def F_X1_settle_J70 (k : Nat) (r1 : Nat) (v2 : Int32) (σ : xM) : Option (Int32 × xM) :=
  if (bz (σ r1 8)) = 0 then
  F_X1_settle_J93 r1 v2 σ
  else
  (F_X3_isBladeHot r1 σ).bind (fun q13 =>
  if (bz q13.1) = 0 then
  F_X1_settle_J93 r1 v2 q13.2
  else
  (F_X1_number k 2 q13.2).bind (fun q15 =>
  (F_X3_tryToOpen r1 q15.1 q15.2).bind (fun q16 =>
  F_X1_settle_J93 r1 v2 q16.2)))
def F_X1_settle_J24 (k : Nat) (r1 : Nat) (v2 : Int32) (v3 : Int32) (σ : xM) : Option (Int32 × xM) :=
  (F_X1_number k 0 σ).bind (fun q4 =>
  nm (xup q4.2 r1 7 ((σ r1 7) + (((v3 - (σ r1 7)) * q4.1) / 100))) (fun σ5 =>
  if (bz (σ5 r1 8)) = 0 then
  (F_X3_isBladeCold r1 σ5).bind (fun q17 =>
  if (bz q17.1) = 0 then
  F_X1_settle_J70 k r1 v2 q17.2
  else
  (F_X1_close k r1 q17.2).bind (fun q19 =>
  F_X1_settle_J93 r1 v2 q19.2))
  else
  F_X1_settle_J70 k r1 v2 σ5))
def F_X1_settle (k : Nat) (r1 : Nat) (σ : xM) : Option (Int32 × xM) :=
  (F_X3_temperature r1 σ).bind (fun q1 =>
  (F_X1_number k 5 q1.2).bind (fun q2 =>
  if q1.1 ≤ q2.1 then
  F_X1_settle_J24 k r1 (bz (σ r1 8)) q1.1 q2.2
  else
  nm (xup q2.2 r1 10 1) (fun σ20 =>
  F_X1_settle_J24 k r1 (bz (σ r1 8)) q1.1 σ20)))
def F_X1_passMinute_L12 (k : Nat) : Nat → Int32 → Int32 → xM → Option (Int32 × xM)
  | 0, _, _, _ => none
  | N + 1, v1, v2, σ =>
    if (σ k 4) ≤ v2 then
    nm (xup σ k 5 ((σ k 5) + 1)) (fun σ4 =>
    some (v1, σ4))
    else
    (F_X1_roomAt k v2 σ).bind (fun q5 =>
    oc q5.1 (
    F_X1_passMinute_L12 k N v1 (v2 + 1) q5.2)
    (fun r6 =>
    if kd r6 = 3 then
    (F_X1_settle k r6 q5.2).bind (fun q7 =>
    if (bz q7.1) = 0 then
    F_X1_passMinute_L12 k N v1 (v2 + 1) q7.2
    else
    F_X1_passMinute_L12 k N (v1 + 1) (v2 + 1) q7.2)
    else none))
def F_X1_passMinute (k : Nat) (σ : xM) : Option (Int32 × xM) :=
  (F_X1_heatRooms k σ).bind (fun q1 =>
  (F_X1_exchangeHeat k q1.2).bind (fun q2 =>
  F_X1_passMinute_L12 k FU 0 0 q2.2))
def F_X1_passMinutes_L4 (k : Nat) : Nat → Int32 → Int32 → Int32 → xM → Option (Int32 × xM)
  | 0, _, _, _, _ => none
  | N + 1, v1, v2, v3, σ =>
    if v1 ≤ v3 then
    some (v2, σ)
    else
    (F_X1_passMinute k σ).bind (fun q2 =>
    nm (v2 + q2.1) (fun x2_3 =>
    F_X1_passMinutes_L4 k N v1 x2_3 (v3 + 1) q2.2))
def F_X1_passMinutes (k : Nat) (x1 : Int32) (σ : xM) : Option (Int32 × xM) :=
  F_X1_passMinutes_L4 k FU x1 0 0 σ
def F_X2_stateAt (k : Nat) (x1 : Int32) (σ : xM) : Option (Option Nat × xM) :=
  if x1 < 0 then
  some (none, σ)
  else
  if 6 ≤ x1 then
  some (none, σ)
  else
  if inb x1 6 then
  some (some ((k + 1) + 1 + 19 * Int32.toNatClampNeg x1), σ)
  else none
def F_J9_min_7cf53 (x0 : Int32) (x1 : Int32) (σ : xM) : Option (Int32 × xM) :=
  if x1 < x0 then
  some (x1, σ)
  else
  some (x0, σ)
def F_X2_save (k : Nat) (r1 : Nat) (σ : xM) : Option (Unit × xM) :=
  (F_X2_stateAt k (σ k 1) σ).bind (fun q1 =>
  oc q1.1 (
  some ((), q1.2))
  (fun r2 =>
  if kd r2 = 1 then
  (F_X1_copyFrom r2 r1 q1.2).bind (fun q3 =>
  nm (xup q3.2 k 1 (((q3.2 k 1) + 1) - ((q3.2 k 1) + 1) / 6 * 6)) (fun σ4 =>
  (F_J9_min_7cf53 ((σ4 k 2) + 1) 6 σ4).bind (fun q5 =>
  nm (xup q5.2 k 2 q5.1) (fun σ6 =>
  some ((), σ6)))))
  else none))
def F_X2_restore (k : Nat) (r1 : Nat) (σ : xM) : Option (Unit × xM) :=
  nm ((((σ k 1) + 6) - 1) - (((σ k 1) + 6) - 1) / 6 * 6) (fun x2_1 =>
  (F_X2_stateAt k x2_1 σ).bind (fun q2 =>
  oc q2.1 (
  some ((), q2.2))
  (fun r3 =>
  if kd r3 = 1 then
  if (q2.2 k 2) ≤ 0 then
  some ((), q2.2)
  else
  (F_X1_copyFrom r1 r3 q2.2).bind (fun q5 =>
  nm (xup q5.2 k 1 x2_1) (fun σ6 =>
  nm (xup σ6 k 2 ((σ6 k 2) - 1)) (fun σ7 =>
  some ((), σ7))))
  else none)))
def F_X3_bringIn (k : Nat) (x1 : Int32) (σ : xM) : Option (Unit × xM) :=
  nm (xup σ k 4 ((σ k 4) + x1)) (fun σ1 =>
  nm (xup σ1 (k + 1) 4 ((σ1 (k + 1) 4) + x1)) (fun σ2 =>
  some ((), σ2)))
def F_X3_renewContact (k : Nat) (σ : xM) : Option (Unit × xM) :=
  nm (xup σ k 11 0) (fun σ1 =>
  nm (xup σ1 k 12 0) (fun σ2 =>
  nm (xup σ2 k 9 0) (fun σ3 =>
  nm (xup σ3 k 8 0) (fun σ4 =>
  some ((), σ4)))))
def F_X3_property (k : Nat) (x1 : Int32) (σ : xM) : Option (Int32 × xM) :=
  if x1 = 0 then
  (F_X3_temperature k σ).bind (fun q2 =>
  some (q2.1, q2.2))
  else if x1 = 1 then
  some ((σ k 4), σ)
  else if x1 = 2 then
  some ((σ k 7), σ)
  else if x1 = 3 then
  if (bz (σ k 8)) = 0 then
  some (0, σ)
  else
  some (1, σ)
  else if x1 = 4 then
  if (bz (σ k 9)) = 0 then
  some (0, σ)
  else
  some (1, σ)
  else if x1 = 5 then
  some ((σ k 11), σ)
  else if x1 = 6 then
  some ((σ k 12), σ)
  else if x1 = 7 then
  some ((σ k 13), σ)
  else if x1 = 8 then
  some ((σ k 15), σ)
  else if x1 = 9 then
  some ((σ k 16), σ)
  else if x1 = 10 then
  if (bz (σ k 10)) = 0 then
  some (0, σ)
  else
  some (1, σ)
  else if x1 = 11 then
  some ((σ k 14), σ)
  else if x1 = 12 then
  some ((σ k 5), σ)
  else if x1 = 13 then
  some ((σ k 6), σ)
  else 
  some ((-1000001), σ)
def F_X6_within (x0 : Int32) (x1 : Int32) (x2 : Int32) (σ : xM) : Option (Int32 × xM) :=
  if x0 < x1 then
  some (0, σ)
  else
  if x2 < x0 then
  some (0, σ)
  else
  some (1, σ)
def F_X6_addRoom (k : Nat) (x1 : Int32) (x2 : Int32) (x3 : Int32) (x4 : Int32) (σ : xM) : Option (Int32 × xM) :=
  (F_X6_within x1 10 500 σ).bind (fun q1 =>
  if (bz q1.1) = 0 then
  some ((-1000001), q1.2)
  else
  (F_X6_within x2 1 200 q1.2).bind (fun q3 =>
  if (bz q3.1) = 0 then
  some ((-1000001), q3.2)
  else
  (F_X6_within x3 0 50 q3.2).bind (fun q5 =>
  if (bz q5.1) = 0 then
  some ((-1000001), q5.2)
  else
  if (x1 / 2) < x3 then
  some ((-1000001), q5.2)
  else
  (F_X6_within x4 (-40) 40 q5.2).bind (fun q8 =>
  if (bz q8.1) = 0 then
  some ((-1000001), q8.2)
  else
  if (q8.2 (k + 1) 4) < 6 then
  (F_X2_save (k + 39) (k + 1) q8.2).bind (fun q11 =>
  (F_X1_beginRoom (k + 1) x1 x2 x3 x4 q11.2).bind (fun q12 =>
  some (q12.1, q12.2)))
  else
  some ((-1000003), q8.2)))))
def F_X6_setLink (k : Nat) (x1 : Int32) (x2 : Int32) (x3 : Int32) (σ : xM) : Option (Int32 × xM) :=
  (F_X1_hasPair (k + 1) x1 x2 σ).bind (fun q1 =>
  if (bz q1.1) = 0 then
  some ((-1000001), q1.2)
  else
  (F_X6_within x3 0 50 q1.2).bind (fun q3 =>
  if (bz q3.1) = 0 then
  some ((-1000001), q3.2)
  else
  (F_X1_linkOf (k + 1) x1 x2 q3.2).bind (fun q5 =>
  nm (x3 - q5.1) (fun x5_6 =>
  (F_X1_canCarry (k + 1) x1 x5_6 q5.2).bind (fun q7 =>
  if (bz q7.1) = 0 then
  some ((-1000002), q7.2)
  else
  (F_X1_canCarry (k + 1) x2 x5_6 q7.2).bind (fun q9 =>
  if (bz q9.1) = 0 then
  some ((-1000002), q9.2)
  else
  (F_X2_save (k + 39) (k + 1) q9.2).bind (fun q11 =>
  (F_X1_putLink (k + 1) x1 x2 x3 q11.2).bind (fun q12 =>
  some (q5.1, q12.2)))))))))
def F_X6_setThermostat_J76  (v2 : Int32) (v3 : Int32) (u4 : Nat) (y0 : Int32) (σ : xM) : Option (Int32 × xM) :=
  nm (xup σ u4 5 v2) (fun σ9 =>
  nm (xup σ9 u4 6 v3) (fun σ10 =>
  if y0 = 0 then
  some (1, σ10)
  else
  some (0, σ10)))
def F_X6_setThermostat_J75  (v2 : Int32) (v3 : Int32) (u4 : Nat) (σ : xM) : Option (Int32 × xM) :=
  F_X6_setThermostat_J76  v2 v3 u4 0 σ
def F_X6_setThermostat (k : Nat) (x1 : Int32) (x2 : Int32) (x3 : Int32) (σ : xM) : Option (Int32 × xM) :=
  (F_X1_roomAt (k + 1) x1 σ).bind (fun q1 =>
  oc q1.1 (
  some ((-1000001), q1.2))
  (fun r2 =>
  if kd r2 = 3 then
  (F_X6_within x2 5000 35000 q1.2).bind (fun q3 =>
  if (bz q3.1) = 0 then
  some ((-1000001), q3.2)
  else
  (F_X6_within x3 100 5000 q3.2).bind (fun q5 =>
  if (bz q5.1) = 0 then
  some ((-1000001), q5.2)
  else
  (F_X2_save (k + 39) (k + 1) q5.2).bind (fun q7 =>
  if (q7.2 r2 5) = x2 then
  if (q7.2 r2 6) = x3 then
  F_X6_setThermostat_J76  x2 x3 r2 1 q7.2
  else
  F_X6_setThermostat_J75  x2 x3 r2 q7.2
  else
  F_X6_setThermostat_J75  x2 x3 r2 q7.2)))
  else none))
def F_X6_isNumberInRange (x0 : Int32) (x1 : Int32) (σ : xM) : Option (Int32 × xM) :=
  if x0 < 0 then
  some (0, σ)
  else
  if 7 ≤ x0 then
  some (0, σ)
  else
  if 7 ≤ x0 then
  some (0, σ)
  else
  if inb x0 7 then
  if inb x0 7 then
  (F_X6_within x1 (stI 1 (Int32.toNatClampNeg x0)) (stI 2 (Int32.toNatClampNeg x0)) σ).bind (fun q6 =>
  if (bz q6.1) = 0 then
  some (0, q6.2)
  else
  some (1, q6.2))
  else none
  else none
def F_X6_setNumber (k : Nat) (x1 : Int32) (x2 : Int32) (σ : xM) : Option (Int32 × xM) :=
  (F_X6_isNumberInRange x1 x2 σ).bind (fun q1 =>
  if (bz q1.1) = 0 then
  some ((-1000001), q1.2)
  else
  (F_X2_save (k + 39) (k + 1) q1.2).bind (fun q3 =>
  (F_X1_number (k + 1) x1 q3.2).bind (fun q4 =>
  (F_X1_putNumber (k + 1) x1 x2 q4.2).bind (fun q5 =>
  some (q4.1, q5.2)))))
def F_X6_warm (k : Nat) (x1 : Int32) (x2 : Int32) (σ : xM) : Option (Int32 × xM) :=
  (F_X1_roomAt (k + 1) x1 σ).bind (fun q1 =>
  oc q1.1 (
  some ((-1000001), q1.2))
  (fun r2 =>
  if kd r2 = 3 then
  (F_X6_within x2 (-50000) 50000 q1.2).bind (fun q3 =>
  if (bz q3.1) = 0 then
  some ((-1000001), q3.2)
  else
  (F_X3_temperatureWith r2 ((q3.2 r2 4) + x2) q3.2).bind (fun q5 =>
  (F_X6_within q5.1 (-200000) 200000 q5.2).bind (fun q6 =>
  if (bz q6.1) = 0 then
  some ((-1000002), q6.2)
  else
  (F_X2_save (k + 39) (k + 1) q6.2).bind (fun q8 =>
  (F_X3_bringIn r2 x2 q8.2).bind (fun q9 =>
  some (q5.1, q9.2))))))
  else none))
def F_X6_service (k : Nat) (x1 : Int32) (σ : xM) : Option (Int32 × xM) :=
  (F_X1_roomAt (k + 1) x1 σ).bind (fun q1 =>
  oc q1.1 (
  some ((-1000001), q1.2))
  (fun r2 =>
  if kd r2 = 3 then
  (F_X2_save (k + 39) (k + 1) q1.2).bind (fun q3 =>
  nm (q3.2 r2 11) (fun x3_4 =>
  (F_X3_renewContact r2 q3.2).bind (fun q5 =>
  some (x3_4, q5.2))))
  else none))
def F_X6_resetCutout (k : Nat) (x1 : Int32) (σ : xM) : Option (Int32 × xM) :=
  (F_X1_roomAt (k + 1) x1 σ).bind (fun q1 =>
  oc q1.1 (
  some ((-1000001), q1.2))
  (fun r2 =>
  if kd r2 = 3 then
  (F_X3_temperature r2 q1.2).bind (fun q3 =>
  if (bz (q3.2 r2 10)) = 0 then
  some ((-1000002), q3.2)
  else
  (F_X1_number (k + 1) 5 q3.2).bind (fun q5 =>
  if q3.1 ≤ q5.1 then
  (F_X2_save (k + 39) (k + 1) q5.2).bind (fun q7 =>
  nm (xup q7.2 r2 10 0) (fun σ8 =>
  some (q3.1, σ8)))
  else
  some ((-1000002), q5.2)))
  else none))
def F_X6_room (k : Nat) (x1 : Int32) (x2 : Int32) (σ : xM) : Option (Int32 × xM) :=
  (F_X1_roomAt (k + 1) x1 σ).bind (fun q1 =>
  oc q1.1 (
  some ((-1000001), q1.2))
  (fun r2 =>
  if kd r2 = 3 then
  (F_X3_property r2 x2 q1.2).bind (fun q3 =>
  some (q3.1, q3.2))
  else none))
def F_X6_book (k : Nat) (x1 : Int32) (x2 : Int32) (σ : xM) : Option (Int32 × xM) :=
  (F_X1_roomAt (k + 1) x1 σ).bind (fun q1 =>
  oc q1.1 (
  some ((-1000001), q1.2))
  (fun r2 =>
  if kd r2 = 3 then
  (F_X0_sum (r2 + 1) x2 q1.2).bind (fun q3 =>
  some (q3.1, q3.2))
  else none))
def F_X6_link (k : Nat) (x1 : Int32) (x2 : Int32) (σ : xM) : Option (Int32 × xM) :=
  (F_X1_hasPair (k + 1) x1 x2 σ).bind (fun q1 =>
  if (bz q1.1) = 0 then
  some ((-1000001), q1.2)
  else
  (F_X1_linkOf (k + 1) x1 x2 q1.2).bind (fun q3 =>
  some (q3.1, q3.2)))
def F_X6_count (k : Nat) (x1 : Int32) (σ : xM) : Option (Int32 × xM) :=
  (F_X6_within x1 0 6 σ).bind (fun q1 =>
  if (bz q1.1) = 0 then
  if x1 = 7 then
  some ((q1.2 (k + 1) 4), q1.2)
  else if x1 = 8 then
  some ((q1.2 (k + 1) 5), q1.2)
  else if x1 = 9 then
  some ((q1.2 (k + 5) 2), q1.2)
  else if x1 = 10 then
  (F_X1_suspectRooms (k + 1) q1.2).bind (fun q7 =>
  some (q7.1, q7.2))
  else if x1 = 11 then
  (F_X1_allFines (k + 1) q1.2).bind (fun q9 =>
  some (q9.1, q9.2))
  else if x1 = 12 then
  some ((q1.2 (k + 155) 1), q1.2)
  else if x1 = 13 then
  some ((q1.2 (k + 39) 2), q1.2)
  else 
  some ((-1000001), q1.2)
  else
  (F_X1_number (k + 1) x1 q1.2).bind (fun q12 =>
  some (q12.1, q12.2)))
def F_X6_pass (k : Nat) (x1 : Int32) (σ : xM) : Option (Int32 × xM) :=
  (F_X6_within x1 1 500 σ).bind (fun q1 =>
  if (bz q1.1) = 0 then
  some ((-1000001), q1.2)
  else
  if (q1.2 (k + 1) 4) = 0 then
  some ((-1000002), q1.2)
  else
  if x1 ≤ (20000 - (q1.2 (k + 1) 5)) then
  (F_X2_save (k + 39) (k + 1) q1.2).bind (fun q5 =>
  (F_X1_passMinutes (k + 1) x1 q5.2).bind (fun q6 =>
  some (q6.1, q6.2)))
  else
  some ((-1000003), q1.2))
def F_X6_minutesToSuspect_L29 (k : Nat) : Nat → Nat → Int32 → xM → Option (Int32 × xM)
  | 0, _, _, _ => none
  | N + 1, u2, v3, σ =>
    if 1000 ≤ v3 then
    (F_X1_isSuspect (k + 20) u2 σ).bind (fun q5 =>
    if (bz q5.1) = 0 then
    some ((-1000009), q5.2)
    else
    some (1000, q5.2))
    else
    (F_X1_isSuspect (k + 20) u2 σ).bind (fun q7 =>
    if (bz q7.1) = 0 then
    (F_X1_passMinute (k + 20) q7.2).bind (fun q9 =>
    F_X6_minutesToSuspect_L29 k N u2 (v3 + 1) q9.2)
    else
    some (v3, q7.2))
def F_X6_minutesToSuspect (k : Nat) (x1 : Int32) (σ : xM) : Option (Int32 × xM) :=
  (F_X1_copyFrom (k + 20) (k + 1) σ).bind (fun q1 =>
  (F_X1_roomAt (k + 20) x1 q1.2).bind (fun q2 =>
  oc q2.1 (
  some ((-1000001), q2.2))
  (fun r3 =>
  if kd r3 = 3 then
  F_X6_minutesToSuspect_L29 k FU r3 0 q2.2
  else none)))
def F_X6_heatIn (k : Nat) (x1 : Int32) (σ : xM) : Option (Int32 × xM) :=
  (F_X6_within x1 1 1000 σ).bind (fun q1 =>
  if (bz q1.1) = 0 then
  some ((-1000001), q1.2)
  else
  (F_X1_copyFrom (k + 20) (k + 1) q1.2).bind (fun q3 =>
  (F_X1_passMinutes (k + 20) x1 q3.2).bind (fun q4 =>
  (F_X1_heatFromHeaters (k + 20) q4.2).bind (fun q5 =>
  (F_X1_heatFromHeaters (k + 1) q5.2).bind (fun q6 =>
  some ((q5.1 - q6.1), q6.2))))))
def F_X6_undo (k : Nat) (σ : xM) : Option (Int32 × xM) :=
  if (σ (k + 39) 2) = 0 then
  some ((-1000002), σ)
  else
  (F_X2_restore (k + 39) (k + 1) σ).bind (fun q2 =>
  some ((q2.2 (k + 39) 2), q2.2))
def F_L_low (x0 : Int32) (x1 : Int32) (σ : xM) : Option (Int32 × xM) :=
  if x1 = 0 then none else
  some (((x0 &&& 2147483647) - (x0 &&& 2147483647) / x1 * x1), σ)
def F_L_tale_LL (r0 : Nat) : Nat → Nat → Int64 → Int32 → Int32 → xM → Option (Int64 × xM)
  | 0, _, _, _, _, _ => none
  | N + 1, t, j1, v3, v4, σ =>
  if t = 33 then
    (F_X6_count r0 7 σ).bind (fun q2 =>
    if q2.1 ≤ v3 then
    some (j1, q2.2)
    else
    F_L_tale_LL r0 N 46 j1 v3 0 q2.2)
  else
  if t = 46 then
    if 14 ≤ v4 then
    F_L_tale_LL r0 N 77 j1 v3 0 σ
    else
    (F_X6_room r0 v3 v4 σ).bind (fun q12 =>
    nm ((j1 * 37) + ((q12.1).toInt64)) (fun j1_13 =>
    F_L_tale_LL r0 N 46 j1_13 v3 (v4 + 1) q12.2))
  else
  if t = 77 then
    if 5 ≤ v4 then
    F_L_tale_LL r0 N 107 j1 v3 0 σ
    else
    (F_X6_book r0 v3 v4 σ).bind (fun q10 =>
    nm ((j1 * 41) + ((q10.1).toInt64)) (fun j1_11 =>
    F_L_tale_LL r0 N 77 j1_11 v3 (v4 + 1) q10.2))
  else
    (F_X6_count r0 7 σ).bind (fun q6 =>
    if q6.1 ≤ v4 then
    F_L_tale_LL r0 N 33 j1 (v3 + 1) 0 q6.2
    else
    (F_X6_link r0 v3 v4 q6.2).bind (fun q8 =>
    nm ((j1 * 43) + ((q8.1).toInt64)) (fun j1_9 =>
    F_L_tale_LL r0 N 107 j1_9 v3 (v4 + 1) q8.2)))
def F_L_tale_L6 (r0 : Nat) : Nat → Int64 → Int32 → xM → Option (Int64 × xM)
  | 0, _, _, _ => none
  | N + 1, j1, v3, σ =>
    if 12 ≤ v3 then
    F_L_tale_LL r0 FU 33 j1 0 0 σ
    else
    (F_X6_count r0 v3 σ).bind (fun q14 =>
    nm ((j1 * 31) + ((q14.1).toInt64)) (fun j1_15 =>
    F_L_tale_L6 r0 N j1_15 (v3 + 1) q14.2))
def F_L_tale (r0 : Nat) (σ : xM) : Option (Int64 × xM) :=
  F_L_tale_L6 r0 FU 3 0 σ
def F_L_does (r0 : Nat) (x1 : Int32) (σ : xM) : Option (Int32 × xM) :=
  (F_L_low (x1 >>> (4 &&& 31)) 4 σ).bind (fun q1 =>
  if (x1 &&& 15) = 0 then
  (F_L_low (x1 >>> (6 &&& 31)) 150 q1.2).bind (fun q3 =>
  (F_L_low (x1 >>> (14 &&& 31)) 200 q3.2).bind (fun q4 =>
  (F_L_low (x1 >>> (22 &&& 31)) 12 q4.2).bind (fun q5 =>
  (F_L_low (x1 >>> (26 &&& 31)) 30 q5.2).bind (fun q6 =>
  (F_X6_addRoom r0 (9 + q3.1) (1 + q4.1) q5.1 (q6.1 - 5) q6.2).bind (fun q7 =>
  some (q7.1, q7.2))))))
  else if (x1 &&& 15) = 1 then
  (F_L_low (x1 >>> (6 &&& 31)) 150 q1.2).bind (fun q9 =>
  (F_L_low (x1 >>> (14 &&& 31)) 200 q9.2).bind (fun q10 =>
  (F_L_low (x1 >>> (22 &&& 31)) 12 q10.2).bind (fun q11 =>
  (F_L_low (x1 >>> (26 &&& 31)) 30 q11.2).bind (fun q12 =>
  (F_X6_addRoom r0 (9 + q9.1) (1 + q10.1) q11.1 (q12.1 - 5) q12.2).bind (fun q13 =>
  some (q13.1, q13.2))))))
  else if (x1 &&& 15) = 2 then
  (F_L_low (x1 >>> (6 &&& 31)) 4 q1.2).bind (fun q15 =>
  (F_L_low (x1 >>> (8 &&& 31)) 30 q15.2).bind (fun q16 =>
  (F_X6_setLink r0 q1.1 q15.1 q16.1 q16.2).bind (fun q17 =>
  some (q17.1, q17.2))))
  else if (x1 &&& 15) = 3 then
  (F_L_low (x1 >>> (6 &&& 31)) 4 q1.2).bind (fun q19 =>
  (F_L_low (x1 >>> (8 &&& 31)) 30 q19.2).bind (fun q20 =>
  (F_X6_setLink r0 q1.1 q19.1 q20.1 q20.2).bind (fun q21 =>
  some (q21.1, q21.2))))
  else if (x1 &&& 15) = 4 then
  (F_L_low (x1 >>> (6 &&& 31)) 31 q1.2).bind (fun q23 =>
  (F_L_low (x1 >>> (11 &&& 31)) 20 q23.2).bind (fun q24 =>
  (F_X6_setThermostat r0 q1.1 (5000 + (1000 * q23.1)) (100 * q24.1) q24.2).bind (fun q25 =>
  some (q25.1, q25.2))))
  else if (x1 &&& 15) = 5 then
  (F_L_low (x1 >>> (6 &&& 31)) 8 q1.2).bind (fun q27 =>
  (F_L_low (x1 >>> (9 &&& 31)) 60 q27.2).bind (fun q28 =>
  (F_X6_setNumber r0 q27.1 q28.1 q28.2).bind (fun q29 =>
  some (q29.1, q29.2))))
  else if (x1 &&& 15) = 6 then
  (F_L_low (x1 >>> (6 &&& 31)) 40001 q1.2).bind (fun q31 =>
  (F_X6_warm r0 q1.1 (q31.1 - 20000) q31.2).bind (fun q32 =>
  some (q32.1, q32.2)))
  else if (x1 &&& 15) = 7 then
  (F_X6_service r0 q1.1 q1.2).bind (fun q34 =>
  some (q34.1, q34.2))
  else if (x1 &&& 15) = 8 then
  (F_X6_resetCutout r0 q1.1 q1.2).bind (fun q36 =>
  some (q36.1, q36.2))
  else 
  (F_L_low (x1 >>> (6 &&& 31)) 40 q1.2).bind (fun q37 =>
  (F_X6_pass r0 q37.1 q37.2).bind (fun q38 =>
  some (q38.1, q38.2))))
end
