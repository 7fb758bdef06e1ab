noncomputable section
def F_L_law_LL (LX : Nat × (Nat → Int32)) : Nat → Nat → Int32 → Int32 → Int32 → Int32 → Int32 → Int32 → Int32 → xM → Option (Int32 × xM)
  | 0, _, _, _, _, _, _, _, _, _ => none
  | N + 1, t, v2, v3, v9, v10, v11, v12, v13, σ =>
  if t = 12 then
    if 40 ≤ v3 then
    (F_X6_undo 0 σ).bind (fun q2 =>
    if v2 = 0 then
    if q2.1 = (-1000002) then
    some (1, q2.2)
    else
    some (0, q2.2)
    else
    if q2.1 = (v2 - 1) then
    some (1, q2.2)
    else
    some (0, q2.2))
    else
    if v3 < 0 then none else
    nm (cellV LX v3) (fun x4_7 =>
    (F_L_tale 0 σ).bind (fun q8 =>
    (F_L_does 0 x4_7 q8.2).bind (fun q9 =>
    if q9.1 ≤ (-1000000) then
    (F_L_tale 0 q9.2).bind (fun q12 =>
    if (lg_cmp q12.1 q8.1) = 0 then
    (F_X6_count 0 13 q12.2).bind (fun q16 =>
    if q16.1 = v2 then
    F_L_law_LL LX N 190 v2 v3 0 0 0 0 0 q16.2
    else
    some (0, q16.2))
    else
    some (0, q12.2))
    else
    if 6 ≤ v2 then
    if ((x4_7 >>> (28 &&& 31)) &&& 3) = 0 then
    (F_X6_undo 0 q9.2).bind (fun q118 =>
    if q118.1 = (6 - 1) then
    (F_L_tale 0 q118.2).bind (fun q120 =>
    if (lg_cmp q120.1 q8.1) = 0 then
    (F_X6_count 0 13 q120.2).bind (fun q122 =>
    if q122.1 = (6 + (-1)) then
    if (x4_7 &&& 15) ≤ 8 then
    F_L_law_LL LX N 190 (6 + (-1)) v3 0 0 0 0 0 q122.2
    else
    if ((x4_7 >>> (28 &&& 31)) &&& 3) = 0 then
    F_L_law_LL LX N 190 (6 + (-1)) v3 0 0 0 0 0 q122.2
    else
    F_L_law_LL LX N 190 (6 + (-1)) v3 1 0 0 0 0 q122.2
    else
    some (0, q122.2))
    else
    some (0, q120.2))
    else
    some (0, q118.2))
    else
    (F_X6_count 0 13 q9.2).bind (fun q113 =>
    if q113.1 = 6 then
    if (x4_7 &&& 15) ≤ 8 then
    F_L_law_LL LX N 190 6 v3 0 0 0 0 0 q113.2
    else
    if ((x4_7 >>> (28 &&& 31)) &&& 3) = 0 then
    F_L_law_LL LX N 190 6 v3 0 0 0 0 0 q113.2
    else
    F_L_law_LL LX N 190 6 v3 1 0 0 0 0 q113.2
    else
    some (0, q113.2))
    else
    nm (v2 + 1) (fun x2_127 =>
    if ((x4_7 >>> (28 &&& 31)) &&& 3) = 0 then
    (F_X6_undo 0 q9.2).bind (fun q135 =>
    if q135.1 = (x2_127 - 1) then
    (F_L_tale 0 q135.2).bind (fun q137 =>
    if (lg_cmp q137.1 q8.1) = 0 then
    (F_X6_count 0 13 q137.2).bind (fun q139 =>
    if q139.1 = (x2_127 + (-1)) then
    if (x4_7 &&& 15) ≤ 8 then
    F_L_law_LL LX N 190 (x2_127 + (-1)) v3 0 0 0 0 0 q139.2
    else
    if ((x4_7 >>> (28 &&& 31)) &&& 3) = 0 then
    F_L_law_LL LX N 190 (x2_127 + (-1)) v3 0 0 0 0 0 q139.2
    else
    F_L_law_LL LX N 190 (x2_127 + (-1)) v3 1 0 0 0 0 q139.2
    else
    some (0, q139.2))
    else
    some (0, q137.2))
    else
    some (0, q135.2))
    else
    (F_X6_count 0 13 q9.2).bind (fun q130 =>
    if q130.1 = x2_127 then
    if (x4_7 &&& 15) ≤ 8 then
    F_L_law_LL LX N 190 x2_127 v3 0 0 0 0 0 q130.2
    else
    if ((x4_7 >>> (28 &&& 31)) &&& 3) = 0 then
    F_L_law_LL LX N 190 x2_127 v3 0 0 0 0 0 q130.2
    else
    F_L_law_LL LX N 190 x2_127 v3 1 0 0 0 0 q130.2
    else
    some (0, q130.2))))))
  else
    (F_X6_count 0 7 σ).bind (fun q19 =>
    if q19.1 ≤ v13 then
    if v10 = 0 then
    (F_X6_count 0 10 q19.2).bind (fun q22 =>
    if v11 = q22.1 then
    (F_X6_count 0 11 q22.2).bind (fun q24 =>
    if v12 = q24.1 then
    (F_L_tale 0 q24.2).bind (fun q26 =>
    (F_X6_heatIn 0 20 q26.2).bind (fun q27 =>
    (F_X6_minutesToSuspect 0 0 q27.2).bind (fun q28 =>
    if q27.1 < 0 then
    some (0, q28.2)
    else
    if 1000 < q28.1 then
    some (0, q28.2)
    else
    (F_L_tale 0 q28.2).bind (fun q31 =>
    if (lg_cmp q31.1 q26.1) = 0 then
    F_L_law_LL LX N 12 v2 (v3 + 1) 0 0 0 0 0 q31.2
    else
    some (0, q31.2)))))
    else
    some (0, q24.2))
    else
    some (0, q22.2))
    else
    some (0, q19.2)
    else
    (F_X6_book 0 v13 3 q19.2).bind (fun q33 =>
    nm (v10 + q33.1) (fun x10_34 =>
    (F_X6_room 0 v13 8 q33.2).bind (fun q35 =>
    nm (v12 + q35.1) (fun x12_36 =>
    (F_X6_room 0 v13 9 q35.2).bind (fun q37 =>
    (F_X6_count 0 6 q37.2).bind (fun q38 =>
    if q37.1 < q38.1 then
    nm (v11 + 0) (fun x11_40 =>
    (F_X6_room 0 v13 1 q38.2).bind (fun q41 =>
    (F_X6_book 0 v13 0 q41.2).bind (fun q42 =>
    (F_X6_book 0 v13 1 q42.2).bind (fun q43 =>
    (F_X6_book 0 v13 2 q43.2).bind (fun q44 =>
    (F_X6_book 0 v13 3 q44.2).bind (fun q45 =>
    (F_X6_book 0 v13 4 q45.2).bind (fun q46 =>
    if q41.1 = ((((q42.1 + q43.1) - q44.1) - q45.1) + q46.1) then
    (F_X6_room 0 v13 4 q46.2).bind (fun q48 =>
    if q48.1 = 1 then
    (F_X6_room 0 v13 3 q48.2).bind (fun q61 =>
    if q61.1 = 0 then
    some (0, q61.2)
    else
    if v9 = 0 then
    (F_X6_room 0 v13 6 q61.2).bind (fun q64 =>
    if q64.1 < 50 then
    F_L_law_LL LX N 190 v2 v3 v9 x10_34 x11_40 x12_36 (v13 + 1) q64.2
    else
    some (0, q64.2))
    else
    (F_X6_room 0 v13 9 q61.2).bind (fun q66 =>
    if q66.1 ≤ 0 then
    (F_X6_room 0 v13 6 q66.2).bind (fun q68 =>
    if q68.1 < 50 then
    F_L_law_LL LX N 190 v2 v3 v9 x10_34 x11_40 x12_36 (v13 + 1) q68.2
    else
    some (0, q68.2))
    else
    (F_X6_room 0 v13 3 q66.2).bind (fun q70 =>
    if q70.1 = 0 then
    some (0, q70.2)
    else
    (F_X6_room 0 v13 6 q70.2).bind (fun q72 =>
    if q72.1 < 50 then
    F_L_law_LL LX N 190 v2 v3 v9 x10_34 x11_40 x12_36 (v13 + 1) q72.2
    else
    some (0, q72.2)))))
    else
    if v9 = 0 then
    (F_X6_room 0 v13 6 q48.2).bind (fun q51 =>
    if q51.1 < 50 then
    F_L_law_LL LX N 190 v2 v3 v9 x10_34 x11_40 x12_36 (v13 + 1) q51.2
    else
    some (0, q51.2))
    else
    (F_X6_room 0 v13 9 q48.2).bind (fun q53 =>
    if q53.1 ≤ 0 then
    (F_X6_room 0 v13 6 q53.2).bind (fun q55 =>
    if q55.1 < 50 then
    F_L_law_LL LX N 190 v2 v3 v9 x10_34 x11_40 x12_36 (v13 + 1) q55.2
    else
    some (0, q55.2))
    else
    (F_X6_room 0 v13 3 q53.2).bind (fun q57 =>
    if q57.1 = 0 then
    some (0, q57.2)
    else
    (F_X6_room 0 v13 6 q57.2).bind (fun q59 =>
    if q59.1 < 50 then
    F_L_law_LL LX N 190 v2 v3 v9 x10_34 x11_40 x12_36 (v13 + 1) q59.2
    else
    some (0, q59.2)))))
    else
    some (0, q46.2))))))))
    else
    nm (v11 + 1) (fun x11_74 =>
    (F_X6_room 0 v13 1 q38.2).bind (fun q75 =>
    (F_X6_book 0 v13 0 q75.2).bind (fun q76 =>
    (F_X6_book 0 v13 1 q76.2).bind (fun q77 =>
    (F_X6_book 0 v13 2 q77.2).bind (fun q78 =>
    (F_X6_book 0 v13 3 q78.2).bind (fun q79 =>
    (F_X6_book 0 v13 4 q79.2).bind (fun q80 =>
    if q75.1 = ((((q76.1 + q77.1) - q78.1) - q79.1) + q80.1) then
    (F_X6_room 0 v13 4 q80.2).bind (fun q82 =>
    if q82.1 = 1 then
    (F_X6_room 0 v13 3 q82.2).bind (fun q95 =>
    if q95.1 = 0 then
    some (0, q95.2)
    else
    if v9 = 0 then
    (F_X6_room 0 v13 6 q95.2).bind (fun q98 =>
    if q98.1 < 50 then
    F_L_law_LL LX N 190 v2 v3 v9 x10_34 x11_74 x12_36 (v13 + 1) q98.2
    else
    some (0, q98.2))
    else
    (F_X6_room 0 v13 9 q95.2).bind (fun q100 =>
    if q100.1 ≤ 0 then
    (F_X6_room 0 v13 6 q100.2).bind (fun q102 =>
    if q102.1 < 50 then
    F_L_law_LL LX N 190 v2 v3 v9 x10_34 x11_74 x12_36 (v13 + 1) q102.2
    else
    some (0, q102.2))
    else
    (F_X6_room 0 v13 3 q100.2).bind (fun q104 =>
    if q104.1 = 0 then
    some (0, q104.2)
    else
    (F_X6_room 0 v13 6 q104.2).bind (fun q106 =>
    if q106.1 < 50 then
    F_L_law_LL LX N 190 v2 v3 v9 x10_34 x11_74 x12_36 (v13 + 1) q106.2
    else
    some (0, q106.2)))))
    else
    if v9 = 0 then
    (F_X6_room 0 v13 6 q82.2).bind (fun q85 =>
    if q85.1 < 50 then
    F_L_law_LL LX N 190 v2 v3 v9 x10_34 x11_74 x12_36 (v13 + 1) q85.2
    else
    some (0, q85.2))
    else
    (F_X6_room 0 v13 9 q82.2).bind (fun q87 =>
    if q87.1 ≤ 0 then
    (F_X6_room 0 v13 6 q87.2).bind (fun q89 =>
    if q89.1 < 50 then
    F_L_law_LL LX N 190 v2 v3 v9 x10_34 x11_74 x12_36 (v13 + 1) q89.2
    else
    some (0, q89.2))
    else
    (F_X6_room 0 v13 3 q87.2).bind (fun q91 =>
    if q91.1 = 0 then
    some (0, q91.2)
    else
    (F_X6_room 0 v13 6 q91.2).bind (fun q93 =>
    if q93.1 < 50 then
    F_L_law_LL LX N 190 v2 v3 v9 x10_34 x11_74 x12_36 (v13 + 1) q93.2
    else
    some (0, q93.2)))))
    else
    some (0, q80.2)))))))))))))))
def F_L_law (LX : Nat × (Nat → Int32)) (σ : xM) : Option (Int32 × xM) :=
  F_L_law_LL LX FU 12 0 0 0 0 0 0 0 σ
end
