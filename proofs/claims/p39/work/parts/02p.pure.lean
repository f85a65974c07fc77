def pJ6_bitCount_0f7a4 (x0 : Int32) : Option (Int32) :=
  ltv (x0 - (((x0.toUInt32 >>> ((1 : Int32).toUInt32 &&& Int32.toUInt32 31)).toInt32) &&& 1431655765)) (fun v_1 =>
  ltv ((v_1 &&& 858993459) + (((v_1.toUInt32 >>> ((2 : Int32).toUInt32 &&& Int32.toUInt32 31)).toInt32) &&& 858993459)) (fun v_2 =>
  ltv ((v_2 + ((v_2.toUInt32 >>> ((4 : Int32).toUInt32 &&& Int32.toUInt32 31)).toInt32)) &&& 252645135) (fun v_3 =>
  ltv (v_3 + ((v_3.toUInt32 >>> ((8 : Int32).toUInt32 &&& Int32.toUInt32 31)).toInt32)) (fun v_4 =>
  ltv (v_4 + ((v_4.toUInt32 >>> ((16 : Int32).toUInt32 &&& Int32.toUInt32 31)).toInt32)) (fun v_5 =>
  some (v_5 &&& 63))))))

def pJ6_compare_7cf53 (x0 : Int32) (x1 : Int32) : Option (Int32) :=
  if x1 ≤ x0 then
    if x0 = x1 then
      some 0
    else
      some 1
  else
    some (-1)

def pX6_has (C : St) (x0 : Int32) (x1 : Int32) : Option (Int32) :=
  if ((x0 >>> (x1 &&& 31)) &&& 1) = 0 then
    some 0
  else
    some 1

def pX5_allFeatures (C : St) : Option (Int32) :=
  some (((1 : Int32) <<< ((C.1 3) &&& 31)) - 1)

def pX5_allowsAt_21 (C : St) (x1 : Int32) (x2 : Int32) : Option (Int32) :=
  gd (ix x1 12) (
  ltv (C.2 1 x1.toNatClampNeg) (fun v_2 =>
  bd (pJ6_bitCount_0f7a4 (v_2 &&& x2)) (fun r_3 =>
  if ((v_2 &&& (C.1 2)) &&& (x2 ^^^ (-1))) = 0 then
    gd (ix x1 12) (
    if r_3 < (C.2 2 x1.toNatClampNeg) then
      some 0
    else
      gd (ix x1 12) (
      if (C.2 3 x1.toNatClampNeg) < r_3 then
        some 0
      else
        some 1))
  else
    some 0)))

def pX5_allowsAt (C : St) (x1 : Int32) (x2 : Int32) : Option (Int32) :=
  gd (ix x1 12) (
  ltv (C.2 0 x1.toNatClampNeg) (fun v_1 =>
  if v_1 < 0 then
    pX5_allowsAt_21 C x1 x2
  else
    bd (pX6_has C x2 v_1) (fun r_4 =>
    if r_4 = 0 then
      some 0
    else
      pX5_allowsAt_21 C x1 x2)))

def pX5_allows_39 (k12 : St → Int32 → Int32 → Option (Int32)) (C : St) (x1 : Int32) (x2 : Int32) : Option (Int32) :=
  ltv (x2 + 1) (fun v_3 =>
  k12 C x1 v_3)

def pX5_allows_12_b (k12 : St → Int32 → Int32 → Option (Int32)) (C : St) (x1 : Int32) (x2 : Int32) : Option (Int32) :=
  if (C.1 3) ≤ x2 then
    some 1
  else
    bd (pX6_has C x1 x2) (fun r_2 =>
    if r_2 = 0 then
      pX5_allows_39 k12 C x1 x2
    else
      bd (pX5_allowsAt C x2 x1) (fun r_4 =>
      if r_4 = 0 then
        some 0
      else
        pX5_allows_39 k12 C x1 x2))

def pX5_allows_12 : Nat → St → Int32 → Int32 → Option (Int32)
  | 0 => fun _ _ _ => none
  | n + 1 => fun C x1 x2 => pX5_allows_12_b (pX5_allows_12 n) C x1 x2

def pX5_allows (C : St) (x1 : Int32) : Option (Int32) :=
  bd (pX6_has C x1 0) (fun r_1 =>
  if r_1 = 0 then
    some 0
  else
    pX5_allows_12 FU C x1 0)

def pX5_mayBeIn (C : St) (x1 : Int32) (x2 : Int32) : Option (Int32) :=
  gd (ix x1 12) (
  bd (pJ6_bitCount_0f7a4 (C.2 1 x1.toNatClampNeg)) (fun r_1 =>
  gd (ix x1 12) (
  if (C.2 2 x1.toNatClampNeg) ≤ r_1 then
    gd (ix x1 12) (
    ltv (C.2 0 x1.toNatClampNeg) (fun v_2 =>
    if v_2 < 0 then
      some 1
    else
      bd (pX6_has C x2 v_2) (fun r_3 =>
      if r_3 = 0 then
        some 0
      else
        gd (ix v_2 12) (
        bd (pJ6_bitCount_0f7a4 ((C.2 1 v_2.toNatClampNeg) &&& x2)) (fun r_4 =>
        gd (ix v_2 12) (
        if (C.2 3 v_2.toNatClampNeg) ≤ r_4 then
          some 0
        else
          some 1))))))
  else
    some 0)))

def pX5_mayBeOut (C : St) (x1 : Int32) (x2 : Int32) : Option (Int32) :=
  gd (ix x1 12) (
  ltv (C.2 0 x1.toNatClampNeg) (fun v_1 =>
  if 0 ≤ v_1 then
    bd (pX6_has C x2 v_1) (fun r_2 =>
    if r_2 = 0 then
      some 1
    else
      gd (ix v_1 12) (
      bd (pJ6_bitCount_0f7a4 ((C.2 1 v_1.toNatClampNeg) &&& x2)) (fun r_3 =>
      gd (ix v_1 12) (
      bd (pJ6_bitCount_0f7a4 ((C.2 1 v_1.toNatClampNeg) >>> ((x1 + 1) &&& 31))) (fun r_4 =>
      bd (pX6_has C (C.1 2) x1) (fun r_5 =>
      if r_5 = 0 then
        gd (ix v_1 12) (
        if (r_3 + r_4) < (C.2 2 v_1.toNatClampNeg) then
          some 0
        else
          some 1)
      else
        some 0))))))
  else
    some 0))

def pX3_holdsFor (C : St) (x1 : Int32) (x2 : Int32) : Option (Int32) :=
  gd (ix x1 20) (
  gd (ix x1 20) (
  if (((C.2 4 x1.toNatClampNeg) &&& x2) ||| ((C.2 5 x1.toNatClampNeg) &&& (x2 ^^^ (-1)))) = 0 then
    some 0
  else
    some 1))

def pX3_holdFor_32 (k2 : St → Int32 → Int32 → Option (Int32)) (C : St) (x1 : Int32) (x2 : Int32) : Option (Int32) :=
  ltv (x2 + 1) (fun v_2 =>
  k2 C x1 v_2)

def pX3_holdFor_2_b (k2 : St → Int32 → Int32 → Option (Int32)) (C : St) (x1 : Int32) (x2 : Int32) : Option (Int32) :=
  if (C.1 5) ≤ x2 then
    some 1
  else
    bd (pX6_has C (C.1 4) x2) (fun r_1 =>
    if r_1 = 0 then
      pX3_holdFor_32 k2 C x1 x2
    else
      bd (pX3_holdsFor C x2 x1) (fun r_3 =>
      if r_3 = 0 then
        some 0
      else
        pX3_holdFor_32 k2 C x1 x2))

def pX3_holdFor_2 : Nat → St → Int32 → Int32 → Option (Int32)
  | 0 => fun _ _ _ => none
  | n + 1 => fun C x1 x2 => pX3_holdFor_2_b (pX3_holdFor_2 n) C x1 x2

def pX3_holdFor (C : St) (x1 : Int32) : Option (Int32) :=
  pX3_holdFor_2 FU C x1 0

def pX3_holdAt_42 (k2 : St → Int32 → Int32 → Int32 → Option (Int32)) (C : St) (x1 : Int32) (x2 : Int32) (x3 : Int32) : Option (Int32) :=
  ltv (x3 + 1) (fun v_1 =>
  k2 C x1 x2 v_1)

def pX3_holdAt_2_b (k2 : St → Int32 → Int32 → Int32 → Option (Int32)) (C : St) (x1 : Int32) (x2 : Int32) (x3 : Int32) : Option (Int32) :=
  if (C.1 5) ≤ x3 then
    some 1
  else
    gd (ix x3 20) (
    if (C.2 6 x3.toNatClampNeg) = x1 then
      bd (pX6_has C (C.1 4) x3) (fun r_2 =>
      if r_2 = 0 then
        pX3_holdAt_42 k2 C x1 x2 x3
      else
        bd (pX3_holdsFor C x3 x2) (fun r_3 =>
        if r_3 = 0 then
          some 0
        else
          pX3_holdAt_42 k2 C x1 x2 x3))
    else
      pX3_holdAt_42 k2 C x1 x2 x3)

def pX3_holdAt_2 : Nat → St → Int32 → Int32 → Int32 → Option (Int32)
  | 0 => fun _ _ _ _ => none
  | n + 1 => fun C x1 x2 x3 => pX3_holdAt_2_b (pX3_holdAt_2 n) C x1 x2 x3

def pX3_holdAt (C : St) (x1 : Int32) (x2 : Int32) : Option (Int32) :=
  pX3_holdAt_2 FU C x1 x2 0

def pX3_lastKeptBy_64 (k8 : St → Int32 → Int32 → Int32 → Int32 → Option (Int32)) (C : St) (x2 : Int32) (x3 : Int32) (x4 : Int32) (x5 : Int32) : Option (Int32) :=
  ltv (x5 + 1) (fun v_3 =>
  k8 C x2 x3 x4 v_3)

def pX3_lastKeptBy_8_b (k8 : St → Int32 → Int32 → Int32 → Int32 → Option (Int32)) (C : St) (x2 : Int32) (x3 : Int32) (x4 : Int32) (x5 : Int32) : Option (Int32) :=
  if (C.1 5) ≤ x5 then
    some (-1)
  else
    gd (ix x5 20) (
    gd (ix x5 20) (
    ltv (((C.2 4 x5.toNatClampNeg) &&& (x3 ^^^ (-1))) ||| ((C.2 5 x5.toNatClampNeg) &&& (x2 ^^^ (-1)))) (fun v_2 =>
    if v_2 = x4 then
      bd (pX6_has C (C.1 4) x5) (fun r_4 =>
      if r_4 = 0 then
        pX3_lastKeptBy_64 k8 C x2 x3 x4 x5
      else
        some x5)
    else
      pX3_lastKeptBy_64 k8 C x2 x3 x4 x5)))

def pX3_lastKeptBy_8 : Nat → St → Int32 → Int32 → Int32 → Int32 → Option (Int32)
  | 0 => fun _ _ _ _ _ => none
  | n + 1 => fun C x2 x3 x4 x5 => pX3_lastKeptBy_8_b (pX3_lastKeptBy_8 n) C x2 x3 x4 x5

def pX3_lastKeptBy (C : St) (x1 : Int32) (x2 : Int32) (x3 : Int32) : Option (Int32) :=
  ltv ((1 : Int32) <<< (x1 &&& 31)) (fun v_1 =>
  pX3_lastKeptBy_8 FU C x2 x3 v_1 0)

def pX4_canTake (C : St) (x2 : Int32) (x3 : Int32) (x4 : Int32) : Option (Int32) :=
  bd (pX6_has C x4 x2) (fun r_1 =>
  if r_1 = 0 then
    bd (pX5_mayBeIn C x2 x3) (fun r_2 =>
    if r_2 = 0 then
      some 0
    else
      bd (pX3_holdAt C x2 (x3 ||| ((1 : Int32) <<< (x2 &&& 31)))) (fun r_3 =>
      if r_3 = 0 then
        some 0
      else
        some 1))
  else
    some 0)

def pX4_canLeave (C : St) (x2 : Int32) (x3 : Int32) (x4 : Int32) : Option (Int32) :=
  bd (pX6_has C x4 x2) (fun r_1 =>
  if r_1 = 0 then
    bd (pX5_mayBeOut C x2 x3) (fun r_2 =>
    if r_2 = 0 then
      some 0
    else
      bd (pX3_holdAt C x2 x3) (fun r_3 =>
      if r_3 = 0 then
        some 0
      else
        some 1))
  else
    some 0)

def pX4_reaches_45 (self : St → Int32 → Int32 → Int32 → Int32 → Option (Int32)) (C : St) (x2 : Int32) (x3 : Int32) (x4 : Int32) (x5 : Int32) (x6 : Int32) : Option (Int32) :=
  bd (pX4_canTake C x2 x3 x5) (fun r_3 =>
  if r_3 = 0 then
    some 0
  else
    bd (self C (x2 + 1) x6 x4 x5) (fun r_4 =>
    if r_4 = 0 then
      some 0
    else
      some 1))

def pX4_reaches_e (self : St → Int32 → Int32 → Int32 → Int32 → Option (Int32)) (C : St) (x2 : Int32) (x3 : Int32) (x4 : Int32) (x5 : Int32) : Option (Int32) :=
  if x2 < (C.1 3) then
    ltv (x3 ||| ((1 : Int32) <<< (x2 &&& 31))) (fun v_1 =>
    bd (pX4_canLeave C x2 x3 x4) (fun r_2 =>
    if r_2 = 0 then
      pX4_reaches_45 self C x2 x3 x4 x5 v_1
    else
      bd (self C (x2 + 1) x3 x4 x5) (fun r_5 =>
      if r_5 = 0 then
        pX4_reaches_45 self C x2 x3 x4 x5 v_1
      else
        some 1)))
  else
    some 1

def pX4_reaches : Nat → St → Int32 → Int32 → Int32 → Int32 → Option (Int32)
  | 0 => fun _ _ _ _ _ => none
  | n + 1 => fun C x2 x3 x4 x5 => pX4_reaches_e (pX4_reaches n) C x2 x3 x4 x5

def pX4_countFrom_43 (self : St → Int32 → Int32 → Int32 → Int32 → Option (Int64)) (C : St) (x2 : Int32) (x3 : Int32) (x4 : Int32) (x5 : Int32) (x6 : Int64) : Option (Int64) :=
  bd (pX4_canTake C x2 x3 x5) (fun r_2 =>
  if r_2 = 0 then
    some x6
  else
    bd (self C (x2 + 1) (x3 ||| ((1 : Int32) <<< (x2 &&& 31))) x4 x5) (fun r_3 =>
    ltv (x6 + r_3) (fun v_4 =>
    some v_4)))

def pX4_countFrom_e (self : St → Int32 → Int32 → Int32 → Int32 → Option (Int64)) (C : St) (x2 : Int32) (x3 : Int32) (x4 : Int32) (x5 : Int32) : Option (Int64) :=
  if x2 < (C.1 3) then
    bd (pX4_canLeave C x2 x3 x4) (fun r_1 =>
    if r_1 = 0 then
      pX4_countFrom_43 self C x2 x3 x4 x5 0
    else
      bd (self C (x2 + 1) x3 x4 x5) (fun r_5 =>
      ltv (0 + r_5) (fun v_6 =>
      pX4_countFrom_43 self C x2 x3 x4 x5 v_6)))
  else
    some 1

def pX4_countFrom : Nat → St → Int32 → Int32 → Int32 → Int32 → Option (Int64)
  | 0 => fun _ _ _ _ _ => none
  | n + 1 => fun C x2 x3 x4 x5 => pX4_countFrom_e (pX4_countFrom n) C x2 x3 x4 x5

def pX2_sumOf_27 (k4 : St → Int32 → Int32 → Int32 → Option (Int32)) (C : St) (x1 : Int32) (x2 : Int32) (x3 : Int32) : Option (Int32) :=
  ltv (x3 + 1) (fun v_2 =>
  k4 C x1 x2 v_2)

def pX2_sumOf_4_b (k4 : St → Int32 → Int32 → Int32 → Option (Int32)) (C : St) (x1 : Int32) (x2 : Int32) (x3 : Int32) : Option (Int32) :=
  if 12 ≤ x3 then
    some x2
  else
    bd (pX6_has C x1 x3) (fun r_1 =>
    if r_1 = 0 then
      pX2_sumOf_27 k4 C x1 x2 x3
    else
      gd (ix x3 12) (
      ltv (x2 + (C.2 7 x3.toNatClampNeg)) (fun v_3 =>
      pX2_sumOf_27 k4 C x1 v_3 x3)))

def pX2_sumOf_4 : Nat → St → Int32 → Int32 → Int32 → Option (Int32)
  | 0 => fun _ _ _ _ => none
  | n + 1 => fun C x1 x2 x3 => pX2_sumOf_4_b (pX2_sumOf_4 n) C x1 x2 x3

def pX2_sumOf (C : St) (x1 : Int32) : Option (Int32) :=
  pX2_sumOf_4 FU C x1 0 0

def pX2_answerOf (C : St) (x1 : Int32) (x2 : Int32) (x3 : Int32) : Option (Int32) :=
  gd (ix x1 6) (
  ltv (C.2 9 x1.toNatClampNeg) (fun v_1 =>
  gd (ix x1 6) (
  ltv (C.2 10 x1.toNatClampNeg) (fun v_2 =>
  gd (ix x1 6) (
  if (C.2 8 x1.toNatClampNeg) = 0 then
    if (v_1 &&& (x2 ^^^ (-1))) = 0 then
      some (x3 - v_2)
    else
      some x3
  else
    if (C.2 8 x1.toNatClampNeg) = 1 then
      some (x3 - ((x3 * v_2) / 100))
    else
      bd (pJ6_bitCount_0f7a4 x2) (fun r_3 =>
      some (x3 + (v_2 * (if 0 < (r_3 - v_1) then (r_3 - v_1) else 0)))))))))

def pX2_ofSet_8_b (k8 : St → Int32 → Int32 → Int32 → Option (Int32)) (C : St) (x1 : Int32) (x2 : Int32) (x3 : Int32) : Option (Int32) :=
  if (C.1 6) ≤ x3 then
    some x2
  else
    bd (pX2_answerOf C x3 x1 x2) (fun r_2 =>
    ltv (x3 + 1) (fun v_3 =>
    k8 C x1 r_2 v_3))

def pX2_ofSet_8 : Nat → St → Int32 → Int32 → Int32 → Option (Int32)
  | 0 => fun _ _ _ _ => none
  | n + 1 => fun C x1 x2 x3 => pX2_ofSet_8_b (pX2_ofSet_8 n) C x1 x2 x3

def pX2_ofSet (C : St) (x1 : Int32) : Option (Int32) :=
  bd (pX2_sumOf C x1) (fun r_1 =>
  pX2_ofSet_8 FU C x1 r_1 0)

def pX2_cheaperOf_8 (C : St) (x1 : Int32) (x2 : Int32) : Option (Int32) :=
  some (if x1 < x2 then x2 else x1)

def pX2_cheaperOf_54 (C : St) (x1 : Int32) (x2 : Int32) (x3 : Int32) : Option (Int32) :=
  if 0 < x3 then
    some x2
  else
    some x1

def pX2_cheaperOf_44 (C : St) (x1 : Int32) (x2 : Int32) (x3 : Int32) : Option (Int32) :=
  if x3 = 0 then
    bd (pJ6_compare_7cf53 x1 x2) (fun r_4 =>
    pX2_cheaperOf_54 C x1 x2 r_4)
  else
    pX2_cheaperOf_54 C x1 x2 x3

def pX2_cheaperOf (C : St) (x1 : Int32) (x2 : Int32) : Option (Int32) :=
  if x1 < 0 then
    pX2_cheaperOf_8 C x1 x2
  else
    if 0 ≤ x2 then
      bd (pX2_ofSet C x1) (fun r_1 =>
      bd (pX2_ofSet C x2) (fun r_2 =>
      bd (pJ6_compare_7cf53 r_1 r_2) (fun r_3 =>
      if r_3 = 0 then
        bd (pJ6_bitCount_0f7a4 x1) (fun r_5 =>
        bd (pJ6_bitCount_0f7a4 x2) (fun r_6 =>
        bd (pJ6_compare_7cf53 r_5 r_6) (fun r_7 =>
        pX2_cheaperOf_44 C x1 x2 r_7)))
      else
        pX2_cheaperOf_44 C x1 x2 r_3)))
    else
      pX2_cheaperOf_8 C x1 x2

def pX4_cheapestFrom_44 (self : St → Int32 → Int32 → Int32 → Int32 → Option (Int32)) (C : St) (x3 : Int32) (x4 : Int32) (x5 : Int32) (x6 : Int32) (x7 : Int32) : Option (Int32) :=
  bd (pX4_canTake C x3 x4 x6) (fun r_2 =>
  if r_2 = 0 then
    some x7
  else
    ltv (x4 ||| ((1 : Int32) <<< (x3 &&& 31))) (fun v_3 =>
    bd (self C (x3 + 1) v_3 x5 x6) (fun r_4 =>
    bd (pX2_cheaperOf C x7 r_4) (fun r_5 =>
    some r_5))))

def pX4_cheapestFrom_e (self : St → Int32 → Int32 → Int32 → Int32 → Option (Int32)) (C : St) (x3 : Int32) (x4 : Int32) (x5 : Int32) (x6 : Int32) : Option (Int32) :=
  if x3 < (C.1 3) then
    bd (pX4_canLeave C x3 x4 x5) (fun r_1 =>
    if r_1 = 0 then
      pX4_cheapestFrom_44 self C x3 x4 x5 x6 (-1)
    else
      bd (self C (x3 + 1) x4 x5 x6) (fun r_6 =>
      pX4_cheapestFrom_44 self C x3 x4 x5 x6 r_6))
  else
    some x4

def pX4_cheapestFrom : Nat → St → Int32 → Int32 → Int32 → Int32 → Option (Int32)
  | 0 => fun _ _ _ _ _ => none
  | n + 1 => fun C x3 x4 x5 x6 => pX4_cheapestFrom_e (pX4_cheapestFrom n) C x3 x4 x5 x6

def pX0_knows (C : St) (x1 : Int32) : Option (Int32) :=
  bd (pX6_has C ((C.1 7) ||| (C.1 8)) x1) (fun r_1 =>
  gd (okZ r_1) (
  some r_1))

def pX0_letterByKin_78 (C : St) (x3 : Int32) : Option (Int32) :=
  if ((x3 &&& (C.1 2)) &&& (C.1 8)) = 0 then
    some 32
  else
    some 107

def pX0_letterByKin_47 (C : St) (x2 : Int32) (x3 : Int32) (x4 : Int32) : Option (Int32) :=
  if x4 < 0 then
    pX0_letterByKin_78 C x3
  else
    bd (pX6_has C (C.1 7) x4) (fun r_3 =>
    if r_3 = 0 then
      pX0_letterByKin_78 C x3
    else
      bd (pX6_has C (C.1 2) x2) (fun r_4 =>
      if r_4 = 0 then
        pX0_letterByKin_78 C x3
      else
        some 109))

def pX0_letterByKin (C : St) (x2 : Int32) : Option (Int32) :=
  gd (ix x2 12) (
  ltv (C.2 1 x2.toNatClampNeg) (fun v_1 =>
  gd (ix x2 12) (
  ltv (C.2 0 x2.toNatClampNeg) (fun v_2 =>
  if (v_1 &&& (C.1 7)) = 0 then
    if v_2 < 0 then
      pX0_letterByKin_47 C x2 v_1 v_2
    else
      bd (pX6_has C (C.1 8) v_2) (fun r_5 =>
      if r_5 = 0 then
        pX0_letterByKin_47 C x2 v_1 v_2
      else
        some 112)
  else
    some 99))))

def pX0_letterByGroup_76 (C : St) (x2 : Int32) : Option (Int32) :=
  gd (ix x2 12) (
  bd (pJ6_bitCount_0f7a4 ((C.2 1 x2.toNatClampNeg) &&& ((C.1 8) ^^^ (-1)))) (fun r_2 =>
  gd (ix x2 12) (
  if (C.2 2 x2.toNatClampNeg) ≤ r_2 then
    some 32
  else
    some 103)))

def pX0_letterByGroup (C : St) (x2 : Int32) : Option (Int32) :=
  gd (ix x2 12) (
  ltv (C.2 0 x2.toNatClampNeg) (fun v_1 =>
  if v_1 < 0 then
    pX0_letterByGroup_76 C x2
  else
    bd (pX6_has C (C.1 7) v_1) (fun r_3 =>
    if r_3 = 0 then
      pX0_letterByGroup_76 C x2
    else
      gd (ix v_1 12) (
      ltv (C.2 1 v_1.toNatClampNeg) (fun v_4 =>
      bd (pJ6_bitCount_0f7a4 (v_4 &&& (C.1 7))) (fun r_5 =>
      gd (ix v_1 12) (
      if r_5 = (C.2 3 v_1.toNatClampNeg) then
        some 102
      else
        bd (pJ6_bitCount_0f7a4 (v_4 &&& ((C.1 8) ^^^ (-1)))) (fun r_6 =>
        gd (ix v_1 12) (
        if r_6 = (C.2 2 v_1.toNatClampNeg) then
          some 110
        else
          pX0_letterByGroup_76 C x2)))))))))

def pX6_stateLetter (C : St) (x1 : Int32) (x2 : Int32) (x3 : Int32) : Option (Int32) :=
  bd (pX6_has C ((C.1 0) ||| (C.1 1)) x1) (fun r_1 =>
  if r_1 = 0 then
    if x2 = 0 then
      some 120
    else
      if x3 = 0 then
        some 97
      else
        some 111
  else
    bd (pX6_has C (C.1 0) x1) (fun r_2 =>
    if r_2 = 0 then
      some 114
    else
      some 99))

def pX6_isAllowed (C : St) (x1 : Int32) : Option (Int32) :=
  bd (pX5_allows C x1) (fun r_1 =>
  if r_1 = 0 then
    some 0
  else
    bd (pX3_holdFor C x1) (fun r_2 =>
    if r_2 = 0 then
      some 0
    else
      some 1))

def pX6_isCompletion (C : St) (x1 : Int32) : Option (Int32) :=
  if ((C.1 0) &&& (x1 ^^^ (-1))) = 0 then
    if ((C.1 1) &&& x1) = 0 then
      bd (pX6_isAllowed C x1) (fun r_1 =>
      if r_1 = 0 then
        some 0
      else
        some 1)
    else
      some 0
  else
    some 0

def pX6_hasCompletion (C : St) : Option (Int32) :=
  bd (pX4_reaches RU C 0 0 (C.1 0) (C.1 1)) (fun r_1 =>
  gd (okZ r_1) (
  some r_1))

def pX6_featuresInAll_29 (k12 : St → Int32 → Int32 → Int32 → Option (Int32)) (C : St) (x1 : Int32) (x2 : Int32) (x3 : Int32) : Option (Int32) :=
  ltv (x3 + 1) (fun v_3 =>
  k12 C x1 x2 v_3)

def pX6_featuresInAll_12_b (k12 : St → Int32 → Int32 → Int32 → Option (Int32)) (C : St) (x1 : Int32) (x2 : Int32) (x3 : Int32) : Option (Int32) :=
  if x1 < x3 then
    some x2
  else
    bd (pX6_isCompletion C x3) (fun r_2 =>
    if r_2 = 0 then
      pX6_featuresInAll_29 k12 C x1 x2 x3
    else
      ltv (x2 &&& x3) (fun v_4 =>
      pX6_featuresInAll_29 k12 C x1 v_4 x3))

def pX6_featuresInAll_12 : Nat → St → Int32 → Int32 → Int32 → Option (Int32)
  | 0 => fun _ _ _ _ => none
  | n + 1 => fun C x1 x2 x3 => pX6_featuresInAll_12_b (pX6_featuresInAll_12 n) C x1 x2 x3

def pX6_featuresInAll (C : St) : Option (Int32) :=
  bd (pX5_allFeatures C) (fun r_1 =>
  pX6_featuresInAll_12 FU C r_1 r_1 0)

def pX6_featuresInSome_29 (k12 : St → Int32 → Int32 → Int32 → Option (Int32)) (C : St) (x1 : Int32) (x2 : Int32) (x3 : Int32) : Option (Int32) :=
  ltv (x3 + 1) (fun v_3 =>
  k12 C x1 x2 v_3)

def pX6_featuresInSome_12_b (k12 : St → Int32 → Int32 → Int32 → Option (Int32)) (C : St) (x1 : Int32) (x2 : Int32) (x3 : Int32) : Option (Int32) :=
  if x2 < x3 then
    some x1
  else
    bd (pX6_isCompletion C x3) (fun r_2 =>
    if r_2 = 0 then
      pX6_featuresInSome_29 k12 C x1 x2 x3
    else
      ltv (x1 ||| x3) (fun v_4 =>
      pX6_featuresInSome_29 k12 C v_4 x2 x3))

def pX6_featuresInSome_12 : Nat → St → Int32 → Int32 → Int32 → Option (Int32)
  | 0 => fun _ _ _ _ => none
  | n + 1 => fun C x1 x2 x3 => pX6_featuresInSome_12_b (pX6_featuresInSome_12 n) C x1 x2 x3

def pX6_featuresInSome (C : St) : Option (Int32) :=
  bd (pX5_allFeatures C) (fun r_1 =>
  pX6_featuresInSome_12 FU C 0 r_1 0)

def pX6_smallerOf (C : St) (x0 : Int32) (x1 : Int32) : Option (Int32) :=
  if x0 = (-1) then
    some x1
  else
    bd (pJ6_bitCount_0f7a4 x1) (fun r_1 =>
    bd (pJ6_bitCount_0f7a4 x0) (fun r_2 =>
    ltv (r_1 - r_2) (fun v_3 =>
    if v_3 < 0 then
      some x1
    else
      if v_3 = 0 then
        if x0 ≤ x1 then
          some x0
        else
          some x1
      else
        some x0)))

def pX6_completions (C : St) : Option (Int64) :=
  bd (pX4_countFrom RU C 0 0 (C.1 0) (C.1 1)) (fun r_1 =>
  some r_1)

def pX6_completionsByAll_32 (k13 : St → Int64 → Int32 → Int32 → Option (Int64)) (C : St) (x1 : Int64) (x3 : Int32) (x4 : Int32) : Option (Int64) :=
  ltv (x4 + 1) (fun v_3 =>
  k13 C x1 x3 v_3)

def pX6_completionsByAll_13_b (k13 : St → Int64 → Int32 → Int32 → Option (Int64)) (C : St) (x1 : Int64) (x3 : Int32) (x4 : Int32) : Option (Int64) :=
  if x3 < x4 then
    some x1
  else
    bd (pX6_isCompletion C x4) (fun r_2 =>
    if r_2 = 0 then
      pX6_completionsByAll_32 k13 C x1 x3 x4
    else
      ltv (x1 + 1) (fun v_4 =>
      pX6_completionsByAll_32 k13 C v_4 x3 x4))

def pX6_completionsByAll_13 : Nat → St → Int64 → Int32 → Int32 → Option (Int64)
  | 0 => fun _ _ _ _ => none
  | n + 1 => fun C x1 x3 x4 => pX6_completionsByAll_13_b (pX6_completionsByAll_13 n) C x1 x3 x4

def pX6_completionsByAll (C : St) : Option (Int64) :=
  bd (pX5_allFeatures C) (fun r_1 =>
  pX6_completionsByAll_13 FU C 0 r_1 0)

def pX6_cheapest (C : St) : Option (Int32) :=
  bd (pX4_cheapestFrom RU C 0 0 (C.1 0) (C.1 1)) (fun r_1 =>
  some r_1)

def pX6_cheapestByAll_35 (k12 : St → Int32 → Int32 → Int32 → Option (Int32)) (C : St) (x1 : Int32) (x2 : Int32) (x3 : Int32) : Option (Int32) :=
  ltv (x3 + 1) (fun v_3 =>
  k12 C x1 x2 v_3)

def pX6_cheapestByAll_12_b (k12 : St → Int32 → Int32 → Int32 → Option (Int32)) (C : St) (x1 : Int32) (x2 : Int32) (x3 : Int32) : Option (Int32) :=
  if x2 < x3 then
    some x1
  else
    bd (pX6_isCompletion C x3) (fun r_2 =>
    if r_2 = 0 then
      pX6_cheapestByAll_35 k12 C x1 x2 x3
    else
      bd (pX2_cheaperOf C x1 x3) (fun r_4 =>
      pX6_cheapestByAll_35 k12 C r_4 x2 x3))

def pX6_cheapestByAll_12 : Nat → St → Int32 → Int32 → Int32 → Option (Int32)
  | 0 => fun _ _ _ _ => none
  | n + 1 => fun C x1 x2 x3 => pX6_cheapestByAll_12_b (pX6_cheapestByAll_12 n) C x1 x2 x3

def pX6_cheapestByAll (C : St) : Option (Int32) :=
  bd (pX5_allFeatures C) (fun r_1 =>
  pX6_cheapestByAll_12 FU C (-1) r_1 0)

def pX7_isIn (C : St) (x0 : Int32) (x1 : Int32) (x2 : Int32) : Option (Int32) :=
  if x0 < x1 then
    some 0
  else
    if x2 < x0 then
      some 0
    else
      some 1

def pX7_isNone (C : St) (x1 : Int32) : Option (Int32) :=
  bd (pX7_isIn C x1 0 ((C.1 0) - 1)) (fun r_1 =>
  if r_1 = 0 then
    some 1
  else
    some 0)

def pX7_has (C : St) (x0 : Int32) (x1 : Int32) : Option (Int32) :=
  if ((x0 >>> (x1 &&& 31)) &&& 1) = 1 then
    some 1
  else
    some 0

def pX7_keeps (C : St) (x1 : Int32) (x2 : Int32) : Option (Int32) :=
  gd (ix x1 20) (
  if (C.2 6 x1.toNatClampNeg) = 114 then
    gd (ix x1 20) (
    bd (pX7_has C x2 (C.2 9 x1.toNatClampNeg)) (fun r_6 =>
    if r_6 = 0 then
      some 1
    else
      gd (ix x1 20) (
      bd (pX7_has C x2 (C.2 10 x1.toNatClampNeg)) (fun r_7 =>
      if r_7 = 0 then
        some 0
      else
        some 1))))
  else
    gd (ix x1 20) (
    if (C.2 6 x1.toNatClampNeg) = 101 then
      gd (ix x1 20) (
      bd (pX7_has C x2 (C.2 9 x1.toNatClampNeg)) (fun r_4 =>
      if r_4 = 0 then
        some 1
      else
        gd (ix x1 20) (
        bd (pX7_has C x2 (C.2 10 x1.toNatClampNeg)) (fun r_5 =>
        if r_5 = 0 then
          some 1
        else
          some 0))))
    else
      gd (ix x1 20) (
      bd (pX7_has C x2 (C.2 9 x1.toNatClampNeg)) (fun r_1 =>
      if r_1 = 0 then
        gd (ix x1 20) (
        bd (pX7_has C x2 (C.2 10 x1.toNatClampNeg)) (fun r_2 =>
        if r_2 = 0 then
          gd (ix x1 20) (
          bd (pX7_has C x2 (C.2 11 x1.toNatClampNeg)) (fun r_3 =>
          if r_3 = 0 then
            some 0
          else
            some 1))
        else
          some 1))
      else
        some 1))))

def pX7_isGood_229 (k194 : St → Int32 → Int32 → Int32 → Option (Int32)) (C : St) (x1 : Int32) (x3 : Int32) (t0 : Int32) : Option (Int32) :=
  ltv (x3 + 1) (fun v_2 =>
  k194 C x1 t0 v_2)

def pX7_isGood_224 (k194 : St → Int32 → Int32 → Int32 → Option (Int32)) (C : St) (x1 : Int32) (x3 : Int32) : Option (Int32) :=
  pX7_isGood_229 k194 C x1 x3 1

def pX7_isGood_194_b (k194 : St → Int32 → Int32 → Int32 → Option (Int32)) (C : St) (x1 : Int32) (x2 : Int32) (x3 : Int32) : Option (Int32) :=
  if (C.1 1) ≤ x3 then
    gd (okZ x2) (
    some x2)
  else
    if x2 = 0 then
      gd (okZ x2) (
      some x2)
    else
      gd (ix x3 20) (
      if (C.2 5 x3.toNatClampNeg) = 0 then
        bd (pX7_keeps C x3 x1) (fun r_3 =>
        if r_3 = 0 then
          pX7_isGood_229 k194 C x1 x3 0
        else
          pX7_isGood_224 k194 C x1 x3)
      else
        pX7_isGood_224 k194 C x1 x3)

def pX7_isGood_194 : Nat → St → Int32 → Int32 → Int32 → Option (Int32)
  | 0 => fun _ _ _ _ => none
  | n + 1 => fun C x1 x2 x3 => pX7_isGood_194_b (pX7_isGood_194 n) C x1 x2 x3

def pX7_isGood_192 (C : St) (x1 : Int32) (x2 : Int32) : Option (Int32) :=
  pX7_isGood_194 FU C x1 x2 0

def pX7_isGood_184 (k8 : St → Int32 → Int32 → Int32 → Option (Int32)) (C : St) (x1 : Int32) (x3 : Int32) (t0 : Int32) (t1 : Int32) : Option (Int32) :=
  ltv (t0 &&& t1) (fun v_7 =>
  ltv (x3 + 1) (fun v_8 =>
  k8 C x1 v_7 v_8))

def pX7_isGood_179 (k8 : St → Int32 → Int32 → Int32 → Option (Int32)) (C : St) (x1 : Int32) (x3 : Int32) (t0 : Int32) : Option (Int32) :=
  pX7_isGood_184 k8 C x1 x3 t0 1

def pX7_isGood_148 (k8 : St → Int32 → Int32 → Int32 → Option (Int32)) (C : St) (x1 : Int32) (x3 : Int32) (x4 : Int32) (t0 : Int32) (t1 : Int32) : Option (Int32) :=
  ltv (t0 &&& t1) (fun v_5 =>
  bd (pX7_has C x1 x3) (fun r_6 =>
  if r_6 = 0 then
    pX7_isGood_179 k8 C x1 x3 v_5
  else
    gd (ix x3 12) (
    gd (ix x3 12) (
    bd (pX7_isIn C x4 (C.2 2 x3.toNatClampNeg) (C.2 3 x3.toNatClampNeg)) (fun r_9 =>
    if r_9 = 0 then
      pX7_isGood_184 k8 C x1 x3 v_5 0
    else
      pX7_isGood_179 k8 C x1 x3 v_5)))))

def pX7_isGood_143 (k8 : St → Int32 → Int32 → Int32 → Option (Int32)) (C : St) (x1 : Int32) (x3 : Int32) (x4 : Int32) (t0 : Int32) : Option (Int32) :=
  pX7_isGood_148 k8 C x1 x3 x4 t0 1

def pX7_isGood_109 (k26 : St → Int32 → Int32 → Int32 → Int32 → Int32 → Option (Int32)) (C : St) (x1 : Int32) (x3 : Int32) (x4 : Int32) (x5 : Int32) (t0 : Int32) (t1 : Int32) : Option (Int32) :=
  ltv (t0 &&& t1) (fun v_12 =>
  ltv (x5 + 1) (fun v_13 =>
  k26 C x1 v_12 x3 x4 v_13))

def pX7_isGood_104 (k26 : St → Int32 → Int32 → Int32 → Int32 → Int32 → Option (Int32)) (C : St) (x1 : Int32) (x3 : Int32) (x4 : Int32) (x5 : Int32) (t0 : Int32) : Option (Int32) :=
  pX7_isGood_109 k26 C x1 x3 x4 x5 t0 1

def pX7_isGood_62 (k26 : St → Int32 → Int32 → Int32 → Int32 → Int32 → Option (Int32)) (C : St) (x1 : Int32) (x2 : Int32) (x3 : Int32) (x5 : Int32) (t0 : Int32) (t1 : Int32) : Option (Int32) :=
  ltv (t0 + t1) (fun v_11 =>
  gd (ix x5 12) (
  if (C.2 0 x5.toNatClampNeg) = x3 then
    gd (ix x5 12) (
    if (C.2 4 x5.toNatClampNeg) = 0 then
      pX7_isGood_104 k26 C x1 x3 v_11 x5 x2
    else
      bd (pX7_has C x1 x3) (fun r_14 =>
      if r_14 = 0 then
        pX7_isGood_104 k26 C x1 x3 v_11 x5 x2
      else
        bd (pX7_has C x1 x5) (fun r_15 =>
        if r_15 = 0 then
          pX7_isGood_109 k26 C x1 x3 v_11 x5 x2 0
        else
          pX7_isGood_104 k26 C x1 x3 v_11 x5 x2)))
  else
    pX7_isGood_104 k26 C x1 x3 v_11 x5 x2))

def pX7_isGood_61 (k26 : St → Int32 → Int32 → Int32 → Int32 → Int32 → Option (Int32)) (C : St) (x1 : Int32) (x2 : Int32) (x3 : Int32) (x5 : Int32) (t0 : Int32) : Option (Int32) :=
  pX7_isGood_62 k26 C x1 x2 x3 x5 t0 0

def pX7_isGood_26_b (k8 : St → Int32 → Int32 → Int32 → Option (Int32)) (k26 : St → Int32 → Int32 → Int32 → Int32 → Int32 → Option (Int32)) (C : St) (x1 : Int32) (x2 : Int32) (x3 : Int32) (x4 : Int32) (x5 : Int32) : Option (Int32) :=
  if (C.1 0) ≤ x5 then
    bd (pX7_has C x1 x3) (fun r_4 =>
    if r_4 = 0 then
      pX7_isGood_143 k8 C x1 x3 x4 x2
    else
      if x3 = 0 then
        pX7_isGood_143 k8 C x1 x3 x4 x2
      else
        gd (ix x3 12) (
        bd (pX7_has C x1 (C.2 0 x3.toNatClampNeg)) (fun r_10 =>
        if r_10 = 0 then
          pX7_isGood_148 k8 C x1 x3 x4 x2 0
        else
          pX7_isGood_143 k8 C x1 x3 x4 x2)))
  else
    gd (ix x5 12) (
    if (C.2 0 x5.toNatClampNeg) = x3 then
      bd (pX7_has C x1 x5) (fun r_16 =>
      if r_16 = 0 then
        pX7_isGood_61 k26 C x1 x2 x3 x5 x4
      else
        pX7_isGood_62 k26 C x1 x2 x3 x5 x4 1)
    else
      pX7_isGood_61 k26 C x1 x2 x3 x5 x4)

def pX7_isGood_26 (k8 : St → Int32 → Int32 → Int32 → Option (Int32)) : Nat → St → Int32 → Int32 → Int32 → Int32 → Int32 → Option (Int32)
  | 0 => fun _ _ _ _ _ _ => none
  | n + 1 => fun C x1 x2 x3 x4 x5 => pX7_isGood_26_b k8 (pX7_isGood_26 k8 n) C x1 x2 x3 x4 x5

def pX7_isGood_8_b (k8 : St → Int32 → Int32 → Int32 → Option (Int32)) (C : St) (x1 : Int32) (x2 : Int32) (x3 : Int32) : Option (Int32) :=
  if (C.1 0) ≤ x3 then
    pX7_isGood_192 C x1 x2
  else
    if x2 = 0 then
      pX7_isGood_192 C x1 x2
    else
      pX7_isGood_26 k8 FU C x1 x2 x3 0 1

def pX7_isGood_8 : Nat → St → Int32 → Int32 → Int32 → Option (Int32)
  | 0 => fun _ _ _ _ => none
  | n + 1 => fun C x1 x2 x3 => pX7_isGood_8_b (pX7_isGood_8 n) C x1 x2 x3

def pX7_isGood (C : St) (x1 : Int32) : Option (Int32) :=
  bd (pX7_has C x1 0) (fun r_1 =>
  pX7_isGood_8 FU C x1 r_1 0)

def pX7_completes (C : St) (x1 : Int32) : Option (Int32) :=
  if (x1 &&& (C.1 3)) = (C.1 3) then
    if (x1 &&& (C.1 4)) = 0 then
      bd (pX7_isGood C x1) (fun r_1 =>
      if r_1 = 0 then
        some 0
      else
        some 1)
    else
      some 0
  else
    some 0

def pX7_isNoneLeft_2_b (k2 : St → Int32 → Option (Int32)) (C : St) (x1 : Int32) : Option (Int32) :=
  if ((1 : Int32) <<< ((C.1 0) &&& 31)) ≤ x1 then
    some 1
  else
    bd (pX7_completes C x1) (fun r_1 =>
    if r_1 = 0 then
      ltv (x1 + 2) (fun v_2 =>
      k2 C v_2)
    else
      some 0)

def pX7_isNoneLeft_2 : Nat → St → Int32 → Option (Int32)
  | 0 => fun _ _ => none
  | n + 1 => fun C x1 => pX7_isNoneLeft_2_b (pX7_isNoneLeft_2 n) C x1

def pX7_isNoneLeft (C : St) : Option (Int32) :=
  pX7_isNoneLeft_2 FU C 1

def pX7_isDecided (C : St) (x1 : Int32) : Option (Int32) :=
  bd (pX7_has C ((C.1 3) ||| (C.1 4)) x1) (fun r_1 =>
  gd (okZ r_1) (
  some r_1))

def pX7_children_62 (k5 : St → Int32 → Int32 → Int32 → Int32 → Option (Int32)) (C : St) (x1 : Int32) (x2 : Int32) (x4 : Int32) (t0 : Int32) (t1 : Int32) : Option (Int32) :=
  ltv (t0 + t1) (fun v_1 =>
  ltv (x4 + 1) (fun v_2 =>
  k5 C x1 x2 v_1 v_2))

def pX7_children_61 (k5 : St → Int32 → Int32 → Int32 → Int32 → Option (Int32)) (C : St) (x1 : Int32) (x2 : Int32) (x4 : Int32) (t0 : Int32) : Option (Int32) :=
  pX7_children_62 k5 C x1 x2 x4 t0 0

def pX7_children_57 (k5 : St → Int32 → Int32 → Int32 → Int32 → Option (Int32)) (C : St) (x1 : Int32) (x2 : Int32) (x4 : Int32) (t0 : Int32) : Option (Int32) :=
  pX7_children_62 k5 C x1 x2 x4 t0 1

def pX7_children_5_b (k5 : St → Int32 → Int32 → Int32 → Int32 → Option (Int32)) (C : St) (x1 : Int32) (x2 : Int32) (x3 : Int32) (x4 : Int32) : Option (Int32) :=
  if (C.1 0) ≤ x4 then
    some x3
  else
    gd (ix x4 12) (
    if (C.2 0 x4.toNatClampNeg) = x1 then
      if x2 = 0 then
        bd (pX7_has C (C.1 6) x4) (fun r_3 =>
        if r_3 = 0 then
          pX7_children_57 k5 C x1 x2 x4 x3
        else
          pX7_children_61 k5 C x1 x2 x4 x3)
      else
        bd (pX7_has C (C.1 5) x4) (fun r_4 =>
        if r_4 = 0 then
          pX7_children_61 k5 C x1 x2 x4 x3
        else
          pX7_children_57 k5 C x1 x2 x4 x3)
    else
      pX7_children_61 k5 C x1 x2 x4 x3)

def pX7_children_5 : Nat → St → Int32 → Int32 → Int32 → Int32 → Option (Int32)
  | 0 => fun _ _ _ _ _ => none
  | n + 1 => fun C x1 x2 x3 x4 => pX7_children_5_b (pX7_children_5 n) C x1 x2 x3 x4

def pX7_children (C : St) (x1 : Int32) (x2 : Int32) : Option (Int32) :=
  pX7_children_5 FU C x1 x2 0 1

def pX7_hasOffChild_48 (k4 : St → Int32 → Int32 → Int32 → Option (Int32)) (C : St) (x1 : Int32) (x3 : Int32) (t0 : Int32) (t1 : Int32) : Option (Int32) :=
  ltv (t0 ||| t1) (fun v_1 =>
  ltv (x3 + 1) (fun v_2 =>
  k4 C x1 v_1 v_2))

def pX7_hasOffChild_47 (k4 : St → Int32 → Int32 → Int32 → Option (Int32)) (C : St) (x1 : Int32) (x3 : Int32) (t0 : Int32) : Option (Int32) :=
  pX7_hasOffChild_48 k4 C x1 x3 t0 0

def pX7_hasOffChild_4_b (k4 : St → Int32 → Int32 → Int32 → Option (Int32)) (C : St) (x1 : Int32) (x2 : Int32) (x3 : Int32) : Option (Int32) :=
  if (C.1 0) ≤ x3 then
    gd (okZ x2) (
    some x2)
  else
    gd (ix x3 12) (
    if (C.2 0 x3.toNatClampNeg) = x1 then
      gd (ix x3 12) (
      if (C.2 4 x3.toNatClampNeg) = 0 then
        pX7_hasOffChild_47 k4 C x1 x3 x2
      else
        bd (pX7_has C (C.1 6) x3) (fun r_3 =>
        if r_3 = 0 then
          pX7_hasOffChild_47 k4 C x1 x3 x2
        else
          pX7_hasOffChild_48 k4 C x1 x3 x2 1))
    else
      pX7_hasOffChild_47 k4 C x1 x3 x2)

def pX7_hasOffChild_4 : Nat → St → Int32 → Int32 → Int32 → Option (Int32)
  | 0 => fun _ _ _ _ => none
  | n + 1 => fun C x1 x2 x3 => pX7_hasOffChild_4_b (pX7_hasOffChild_4 n) C x1 x2 x3

def pX7_hasOffChild (C : St) (x1 : Int32) : Option (Int32) :=
  pX7_hasOffChild_4 FU C x1 0 1

def pX7_told_207 (C : St) (x3 : Int32) : Option (Int32) :=
  if ((C.1 6) &&& x3) = x3 then
    some 1
  else
    some 0

def pX7_told_110 (C : St) (x1 : Int32) (x2 : Int32) : Option (Int32) :=
  gd (ix x1 20) (
  if x2 = (C.2 9 x1.toNatClampNeg) then
    gd (ix x1 20) (
    bd (pX7_has C (C.1 5) (C.2 10 x1.toNatClampNeg)) (fun r_3 =>
    if r_3 = 0 then
      some 0
    else
      some (-1)))
  else
    some 0)

def pX7_told_41 (C : St) (x1 : Int32) (x2 : Int32) : Option (Int32) :=
  gd (ix x1 20) (
  if x2 = (C.2 9 x1.toNatClampNeg) then
    gd (ix x1 20) (
    bd (pX7_has C (C.1 6) (C.2 10 x1.toNatClampNeg)) (fun r_5 =>
    if r_5 = 0 then
      some 0
    else
      some (-1)))
  else
    some 0)

def pX7_told (C : St) (x1 : Int32) (x2 : Int32) : Option (Int32) :=
  gd (ix x1 20) (
  if (C.2 6 x1.toNatClampNeg) = 114 then
    gd (ix x1 20) (
    if x2 = (C.2 10 x1.toNatClampNeg) then
      gd (ix x1 20) (
      bd (pX7_has C (C.1 5) (C.2 9 x1.toNatClampNeg)) (fun r_6 =>
      if r_6 = 0 then
        pX7_told_41 C x1 x2
      else
        some 1))
    else
      pX7_told_41 C x1 x2)
  else
    gd (ix x1 20) (
    if (C.2 6 x1.toNatClampNeg) = 101 then
      gd (ix x1 20) (
      if x2 = (C.2 10 x1.toNatClampNeg) then
        gd (ix x1 20) (
        bd (pX7_has C (C.1 5) (C.2 9 x1.toNatClampNeg)) (fun r_4 =>
        if r_4 = 0 then
          pX7_told_110 C x1 x2
        else
          some (-1)))
      else
        pX7_told_110 C x1 x2)
    else
      gd (ix x1 20) (
      gd (ix x1 20) (
      gd (ix x1 20) (
      ltv ((((1 : Int32) <<< ((C.2 9 x1.toNatClampNeg) &&& 31)) ||| ((1 : Int32) <<< ((C.2 10 x1.toNatClampNeg) &&& 31))) ||| ((1 : Int32) <<< ((C.2 11 x1.toNatClampNeg) &&& 31))) (fun v_1 =>
      ltv (v_1 &&& (((1 : Int32) <<< (x2 &&& 31)) ^^^ (-1))) (fun v_2 =>
      gd (ix x1 20) (
      if x2 = (C.2 9 x1.toNatClampNeg) then
        pX7_told_207 C v_2
      else
        gd (ix x1 20) (
        if x2 = (C.2 10 x1.toNatClampNeg) then
          pX7_told_207 C v_2
        else
          gd (ix x1 20) (
          if x2 = (C.2 11 x1.toNatClampNeg) then
            pX7_told_207 C v_2
          else
            some 0))))))))))

def pX7_priced_166 (k41 : St → Int32 → Int32 → Int32 → Option (Int32)) (C : St) (x1 : Int32) (x3 : Int32) (t0 : Int32) (t1 : Int32) : Option (Int32) :=
  ltv (t0 + t1) (fun v_3 =>
  ltv (x3 + 1) (fun v_4 =>
  k41 C x1 v_3 v_4))

def pX7_priced_126 (k41 : St → Int32 → Int32 → Int32 → Option (Int32)) (C : St) (x1 : Int32) (x3 : Int32) (t0 : Int32) (t1 : Int32) : Option (Int32) :=
  ltv (t0 - t1) (fun v_2 =>
  gd (ix x3 6) (
  if (C.2 7 x3.toNatClampNeg) = 115 then
    gd (ix x3 6) (
    bd (pJ6_bitCount_0f7a4 x1) (fun r_5 =>
    gd (ix x3 6) (
    pX7_priced_166 k41 C x1 x3 v_2 ((C.2 14 x3.toNatClampNeg) * (if 0 < (r_5 - (C.2 12 x3.toNatClampNeg)) then (r_5 - (C.2 12 x3.toNatClampNeg)) else 0)))))
  else
    pX7_priced_166 k41 C x1 x3 v_2 0))

def pX7_priced_97 (k41 : St → Int32 → Int32 → Int32 → Option (Int32)) (C : St) (x1 : Int32) (x3 : Int32) (t0 : Int32) (t1 : Int32) : Option (Int32) :=
  ltv (t0 - t1) (fun v_1 =>
  gd (ix x3 6) (
  if (C.2 7 x3.toNatClampNeg) = 112 then
    gd (ix x3 6) (
    pX7_priced_126 k41 C x1 x3 v_1 ((v_1 * (C.2 14 x3.toNatClampNeg)) / 100))
  else
    pX7_priced_126 k41 C x1 x3 v_1 0))

def pX7_priced_96 (k41 : St → Int32 → Int32 → Int32 → Option (Int32)) (C : St) (x1 : Int32) (x3 : Int32) (t0 : Int32) : Option (Int32) :=
  pX7_priced_97 k41 C x1 x3 t0 0

def pX7_priced_41_b (k41 : St → Int32 → Int32 → Int32 → Option (Int32)) (C : St) (x1 : Int32) (x2 : Int32) (x3 : Int32) : Option (Int32) :=
  if (C.1 2) ≤ x3 then
    some x2
  else
    gd (ix x3 6) (
    if (C.2 7 x3.toNatClampNeg) = 98 then
      gd (ix x3 6) (
      bd (pX7_has C x1 (C.2 12 x3.toNatClampNeg)) (fun r_6 =>
      if r_6 = 0 then
        pX7_priced_96 k41 C x1 x3 x2
      else
        gd (ix x3 6) (
        bd (pX7_has C x1 (C.2 13 x3.toNatClampNeg)) (fun r_7 =>
        if r_7 = 0 then
          pX7_priced_96 k41 C x1 x3 x2
        else
          gd (ix x3 6) (
          pX7_priced_97 k41 C x1 x3 x2 (C.2 14 x3.toNatClampNeg))))))
    else
      pX7_priced_96 k41 C x1 x3 x2)

def pX7_priced_41 : Nat → St → Int32 → Int32 → Int32 → Option (Int32)
  | 0 => fun _ _ _ _ => none
  | n + 1 => fun C x1 x2 x3 => pX7_priced_41_b (pX7_priced_41 n) C x1 x2 x3

def pX7_priced_31 (k4 : St → Int32 → Int32 → Int32 → Option (Int32)) (C : St) (x1 : Int32) (x3 : Int32) (t0 : Int32) (t1 : Int32) : Option (Int32) :=
  ltv (t0 + t1) (fun v_9 =>
  ltv (x3 + 1) (fun v_10 =>
  k4 C x1 v_9 v_10))

def pX7_priced_4_b (k4 : St → Int32 → Int32 → Int32 → Option (Int32)) (C : St) (x1 : Int32) (x2 : Int32) (x3 : Int32) : Option (Int32) :=
  if (C.1 0) ≤ x3 then
    pX7_priced_41 FU C x1 x2 0
  else
    bd (pX7_has C x1 x3) (fun r_8 =>
    if r_8 = 0 then
      pX7_priced_31 k4 C x1 x3 x2 0
    else
      gd (ix x3 12) (
      pX7_priced_31 k4 C x1 x3 x2 (C.2 1 x3.toNatClampNeg)))

def pX7_priced_4 : Nat → St → Int32 → Int32 → Int32 → Option (Int32)
  | 0 => fun _ _ _ _ => none
  | n + 1 => fun C x1 x2 x3 => pX7_priced_4_b (pX7_priced_4 n) C x1 x2 x3

def pX7_priced (C : St) (x1 : Int32) : Option (Int32) :=
  pX7_priced_4 FU C x1 0 0

def pX7_isCheaper (C : St) (x1 : Int32) (x2 : Int32) : Option (Int32) :=
  bd (pX7_priced C x1) (fun r_1 =>
  bd (pX7_priced C x2) (fun r_2 =>
  bd (pJ6_bitCount_0f7a4 x1) (fun r_3 =>
  bd (pJ6_bitCount_0f7a4 x2) (fun r_4 =>
  if r_1 < r_2 then
    some 1
  else
    if r_1 = r_2 then
      if r_3 < r_4 then
        some 1
      else
        if r_3 = r_4 then
          if x2 ≤ x1 then
            some 0
          else
            some 1
        else
          some 0
    else
      some 0))))

def pX7_wrong_97 (k5 : St → Int32 → Int32 → Int32 → Int32 → Option (Int32)) (C : St) (x1 : Int32) (x2 : Int32) (x3 : Int32) (x4 : Int32) : Option (Int32) :=
  ltv (x4 + 2) (fun v_2 =>
  k5 C x1 x2 x3 v_2)

def pX7_wrong_96 (k5 : St → Int32 → Int32 → Int32 → Int32 → Option (Int32)) (C : St) (x1 : Int32) (x2 : Int32) (x4 : Int32) (t0 : Int32) : Option (Int32) :=
  pX7_wrong_97 k5 C x1 x2 t0 x4

def pX7_wrong_90 (k5 : St → Int32 → Int32 → Int32 → Int32 → Option (Int32)) (C : St) (x1 : Int32) (x2 : Int32) (x4 : Int32) (x5 : Int32) : Option (Int32) :=
  pX7_wrong_96 k5 C x1 x2 x4 x5

def pX7_wrong_95 (k5 : St → Int32 → Int32 → Int32 → Int32 → Option (Int32)) (C : St) (x1 : Int32) (x2 : Int32) (x3 : Int32) (x4 : Int32) : Option (Int32) :=
  pX7_wrong_96 k5 C x1 x2 x4 x3

def pX7_wrong_72 (k5 : St → Int32 → Int32 → Int32 → Int32 → Option (Int32)) (C : St) (x1 : Int32) (x2 : Int32) (x3 : Int32) (x4 : Int32) (x5 : Int32) (t0 : Int32) : Option (Int32) :=
  if t0 < 0 then
    pX7_wrong_90 k5 C x1 x2 x4 x5
  else
    if t0 = 0 then
      if x3 ≤ x5 then
        pX7_wrong_95 k5 C x1 x2 x3 x4
      else
        pX7_wrong_90 k5 C x1 x2 x4 x5
    else
      pX7_wrong_95 k5 C x1 x2 x3 x4

def pX7_wrong_5_b (k5 : St → Int32 → Int32 → Int32 → Int32 → Option (Int32)) (C : St) (x1 : Int32) (x2 : Int32) (x3 : Int32) (x4 : Int32) : Option (Int32) :=
  if ((1 : Int32) <<< ((C.1 0) &&& 31)) ≤ x4 then
    some x3
  else
    bd (pX7_has C x4 x1) (fun r_1 =>
    if r_1 = x2 then
      bd (pX7_isGood C x4) (fun r_3 =>
      if r_3 = 0 then
        pX7_wrong_97 k5 C x1 x2 x3 x4
      else
        ltv (((C.1 3) &&& (x4 ^^^ (-1))) ||| ((C.1 4) &&& x4)) (fun v_4 =>
        if 0 ≤ x3 then
          bd (pJ6_bitCount_0f7a4 v_4) (fun r_5 =>
          bd (pJ6_bitCount_0f7a4 x3) (fun r_6 =>
          pX7_wrong_72 k5 C x1 x2 x3 x4 v_4 (r_5 - r_6)))
        else
          pX7_wrong_72 k5 C x1 x2 x3 x4 v_4 (-1)))
    else
      pX7_wrong_97 k5 C x1 x2 x3 x4)

def pX7_wrong_5 : Nat → St → Int32 → Int32 → Int32 → Int32 → Option (Int32)
  | 0 => fun _ _ _ _ _ => none
  | n + 1 => fun C x1 x2 x3 x4 => pX7_wrong_5_b (pX7_wrong_5 n) C x1 x2 x3 x4

def pX7_wrong (C : St) (x1 : Int32) (x2 : Int32) : Option (Int32) :=
  pX7_wrong_5 FU C x1 x2 (-1) 1

def pX7_thrown (C : St) : Option (Int32) :=
  some (C.1 7)

def pX0_learn (C : St) (x1 : Int32) (x2 : Int32) (x3 : Int32) : Option (St) :=
  gd (ix x1 12) (
  ltv (sA C 11 x1.toNatClampNeg (vp_nar .char x2)) (fun C_1 =>
  if x3 = 0 then
    ltv (sS C_1 8 ((C_1.1 8) ||| ((1 : Int32) <<< (x1 &&& 31)))) (fun C_2 =>
    some C_2)
  else
    ltv (sS C_1 7 ((C_1.1 7) ||| ((1 : Int32) <<< (x1 &&& 31)))) (fun C_3 =>
    some C_3)))

def pX0_learnByTree_54 (C : St) (t1 : Int32) (t2 : Int32) (t3 : Int32) : Option (Int32 × St) :=
  bd (pX0_learn C t1 t2 t3) (fun u_2 =>
  some (1, u_2))

def pX0_learnByTree_49 (C : St) (t1 : Int32) (t2 : Int32) : Option (Int32 × St) :=
  pX0_learnByTree_54 C t1 t2 1

def pX0_learnByTree_20 (C : St) (x2 : Int32) (x3 : Int32) : Option (Int32 × St) :=
  if x3 = 32 then
    some (0, C)
  else
    if x3 = 99 then
      pX0_learnByTree_49 C x2 x3
    else
      if x3 = 109 then
        pX0_learnByTree_49 C x2 x3
      else
        if x3 = 110 then
          pX0_learnByTree_49 C x2 x3
        else
          pX0_learnByTree_54 C x2 x3 0

def pX0_learnByTree (C : St) (x2 : Int32) : Option (Int32 × St) :=
  bd (pX0_letterByKin C x2) (fun r_1 =>
  if r_1 = 32 then
    bd (pX0_letterByGroup C x2) (fun r_3 =>
    pX0_learnByTree_20 C x2 r_3)
  else
    pX0_learnByTree_20 C x2 r_1)

def pX0_learnByRule (C : St) (x2 : Int32) : Option (Int32 × St) :=
  bd (pX3_lastKeptBy C x2 (C.1 7) (C.1 8)) (fun r_1 =>
  if 0 ≤ r_1 then
    gd (ix x2 12) (
    ltv (sA C 12 x2.toNatClampNeg r_1) (fun C_2 =>
    gd (ix r_1 20) (
    bd (pX6_has C_2 (C_2.2 4 r_1.toNatClampNeg) x2) (fun r_3 =>
    bd (pX0_learn C_2 x2 114 r_3) (fun u_4 =>
    some (1, u_4))))))
  else
    some (0, C))

def pX0_learnLowest_38 (k2 : St → Int32 → Option (Int32 × St)) (C : St) (x3 : Int32) : Option (Int32 × St) :=
  ltv (x3 + 1) (fun v_2 =>
  k2 C v_2)

def pX0_learnLowest_2_b (k2 : St → Int32 → Option (Int32 × St)) (C : St) (x3 : Int32) : Option (Int32 × St) :=
  if (C.1 3) ≤ x3 then
    some (0, C)
  else
    bd (pX0_knows C x3) (fun r_1 =>
    if r_1 = 0 then
      bd (pX0_learnByTree C x3) (fun u_3 =>
      if (u_3.1) = 0 then
        bd (pX0_learnByRule u_3.2 x3) (fun u_4 =>
        if (u_4.1) = 0 then
          pX0_learnLowest_38 k2 u_4.2 x3
        else
          some (1, u_4.2))
      else
        some (1, u_3.2))
    else
      pX0_learnLowest_38 k2 C x3)

def pX0_learnLowest_2 : Nat → St → Int32 → Option (Int32 × St)
  | 0 => fun _ _ => none
  | n + 1 => fun C x3 => pX0_learnLowest_2_b (pX0_learnLowest_2 n) C x3

def pX0_learnLowest (C : St) : Option (Int32 × St) :=
  pX0_learnLowest_2 FU C 0

def pX0_run_71_b (k71 : St → Int32 → Int32 → Option (St)) (C : St) (x5 : Int32) (x6 : Int32) : Option (St) :=
  if (C.1 3) ≤ x6 then
    some C
  else
    if x5 = 0 then
      some C
    else
      bd (pX0_learnLowest C) (fun u_4 =>
      ltv (u_4.1) (fun v_5 =>
      ltv (x6 + 1) (fun v_6 =>
      k71 u_4.2 v_5 v_6)))

def pX0_run_71 : Nat → St → Int32 → Int32 → Option (St)
  | 0 => fun _ _ _ => none
  | n + 1 => fun C x5 x6 => pX0_run_71_b (pX0_run_71 n) C x5 x6

def pX0_run_50 (k16 : St → Int32 → Int32 → Int32 → Option (St)) (C : St) (x3 : Int32) (x4 : Int32) (x5 : Int32) (t1 : Int32) (t2 : Int32) : Option (St) :=
  gd (ix t1 12) (
  ltv (sA C 11 t1.toNatClampNeg (vp_nar .char t2)) (fun C_8 =>
  ltv (x5 + 1) (fun v_9 =>
  k16 C_8 x3 x4 v_9)))

def pX0_run_16_b (k16 : St → Int32 → Int32 → Int32 → Option (St)) (C : St) (x3 : Int32) (x4 : Int32) (x5 : Int32) : Option (St) :=
  if (C.1 3) ≤ x5 then
    gd (ix 0 12) (
    ltv (sA C 11 (0 : Int32).toNatClampNeg (vp_nar .char 111)) (fun C_3 =>
    pX0_run_71 FU C_3 1 0))
  else
    bd (pX6_has C (x3 ||| x4) x5) (fun r_7 =>
    if r_7 = 0 then
      pX0_run_50 k16 C x3 x4 x5 x5 32
    else
      pX0_run_50 k16 C x3 x4 x5 x5 100)

def pX0_run_16 : Nat → St → Int32 → Int32 → Int32 → Option (St)
  | 0 => fun _ _ _ _ => none
  | n + 1 => fun C x3 x4 x5 => pX0_run_16_b (pX0_run_16 n) C x3 x4 x5

def pX0_run (C : St) (x3 : Int32) (x4 : Int32) : Option (St) :=
  ltv (sS C 7 (1 ||| x3)) (fun C_1 =>
  ltv (sS C_1 8 x4) (fun C_2 =>
  pX0_run_16 FU C_2 x3 x4 0))

def pX1_append (C : St) (x1 : Int32) : Option (St) :=
  if 64 ≤ (C.1 9) then
    some C
  else
    gd (ix (C.1 9) 64) (
    ltv (sA C 13 (C.1 9).toNatClampNeg (vp_nar .char x1)) (fun C_1 =>
    ltv (sS C_1 9 ((C_1.1 9) + 1)) (fun C_2 =>
    some C_2)))

def pX1_write_101 (k7 : St → Int32 → Int32 → Option (St)) (C : St) (x1 : Int32) (x3 : Int32) : Option (St) :=
  ltv (x3 + 1) (fun v_5 =>
  k7 C x1 v_5)

def pX1_write_89 (k7 : St → Int32 → Int32 → Option (St)) (C : St) (x1 : Int32) (x3 : Int32) (t1 : Int32) : Option (St) :=
  bd (pX1_append C t1) (fun u_8 =>
  pX1_write_101 k7 u_8 x1 x3)

def pX1_write_40 (k7 : St → Int32 → Int32 → Option (St)) (C : St) (x1 : Int32) (x3 : Int32) : Option (St) :=
  bd (pX1_append C (((48 + (x3 - x3 / 10 * 10)).toUInt32 % 65536).toInt32)) (fun u_2 =>
  bd (pX0_knows u_2 x3) (fun r_3 =>
  if r_3 = 0 then
    bd (pX1_append u_2 63) (fun u_4 =>
    pX1_write_101 k7 u_4 x1 x3)
  else
    gd (ix x3 12) (
    bd (pX1_append u_2 (u_2.2 11 x3.toNatClampNeg)) (fun u_6 =>
    bd (pX6_has u_6 (u_6.1 7) x3) (fun r_7 =>
    if r_7 = 0 then
      pX1_write_89 k7 u_6 x1 x3 45
    else
      pX1_write_89 k7 u_6 x1 x3 43)))))

def pX1_write_22 (k7 : St → Int32 → Int32 → Option (St)) (C : St) (x1 : Int32) (x3 : Int32) : Option (St) :=
  if x3 < 10 then
    pX1_write_40 k7 C x1 x3
  else
    bd (pX1_append C (((48 + (x3 / 10)).toUInt32 % 65536).toInt32)) (fun u_9 =>
    pX1_write_40 k7 u_9 x1 x3)

def pX1_write_7_b (k7 : St → Int32 → Int32 → Option (St)) (C : St) (x1 : Int32) (x3 : Int32) : Option (St) :=
  if x1 ≤ x3 then
    some C
  else
    if x3 ≤ 0 then
      pX1_write_22 k7 C x1 x3
    else
      bd (pX1_append C 32) (fun u_10 =>
      pX1_write_22 k7 u_10 x1 x3)

def pX1_write_7 : Nat → St → Int32 → Int32 → Option (St)
  | 0 => fun _ _ _ => none
  | n + 1 => fun C x1 x3 => pX1_write_7_b (pX1_write_7 n) C x1 x3

def pX1_write (C : St) (x1 : Int32) : Option (St) :=
  ltv (sS C 9 0) (fun C_1 =>
  pX1_write_7 FU C_1 x1 0)

def pX5_grow (C : St) (x1 : Int32) : Option (Int32 × St) :=
  ltv (C.1 3) (fun v_1 =>
  gd (ix v_1 12) (
  ltv (sA C 0 v_1.toNatClampNeg x1) (fun C_2 =>
  gd (ix x1 12) (
  gd (ix x1 12) (
  ltv (sA C_2 1 x1.toNatClampNeg ((C_2.2 1 x1.toNatClampNeg) ||| ((1 : Int32) <<< (v_1 &&& 31)))) (fun C_3 =>
  gd (ix v_1 12) (
  ltv (sA C_3 3 v_1.toNatClampNeg 12) (fun C_4 =>
  ltv (sS C_4 3 ((C_4.1 3) + 1)) (fun C_5 =>
  some (v_1, C_5))))))))))

def pX3_append (C : St) (x1 : Int32) (x2 : Int32) (x3 : Int32) : Option (Int32 × St) :=
  ltv (C.1 5) (fun v_1 =>
  gd (ix v_1 20) (
  ltv (sA C 4 v_1.toNatClampNeg x1) (fun C_2 =>
  gd (ix v_1 20) (
  ltv (sA C_2 5 v_1.toNatClampNeg x2) (fun C_3 =>
  gd (ix v_1 20) (
  ltv (sA C_3 6 v_1.toNatClampNeg x3) (fun C_4 =>
  ltv (sS C_4 4 ((C_4.1 4) ||| ((1 : Int32) <<< (v_1 &&& 31)))) (fun C_5 =>
  ltv (sS C_5 5 ((C_5.1 5) + 1)) (fun C_6 =>
  some (v_1, C_6))))))))))

def pX3_dropLast (C : St) : Option (St) :=
  ltv (sS C 5 ((C.1 5) - 1)) (fun C_1 =>
  ltv (sS C_1 4 ((C_1.1 4) &&& (((1 : Int32) <<< ((C_1.1 5) &&& 31)) ^^^ (-1)))) (fun C_2 =>
  some C_2))

def pX2_setFirst (C : St) (x1 : Int32) (x2 : Int32) : Option (St) :=
  gd (ix x1 12) (
  ltv (sA C 7 x1.toNatClampNeg x2) (fun C_1 =>
  some C_1))

def pX2_append (C : St) (x1 : Int32) (x2 : Int32) (x3 : Int32) : Option (St) :=
  gd (ix (C.1 6) 6) (
  ltv (sA C 8 (C.1 6).toNatClampNeg x1) (fun C_1 =>
  gd (ix (C_1.1 6) 6) (
  ltv (sA C_1 9 (C_1.1 6).toNatClampNeg x2) (fun C_2 =>
  gd (ix (C_2.1 6) 6) (
  ltv (sA C_2 10 (C_2.1 6).toNatClampNeg x3) (fun C_3 =>
  ltv (sS C_3 6 ((C_3.1 6) + 1)) (fun C_4 =>
  some C_4)))))))

def pX6_takeBack (C : St) (x1 : Int32) : Option (St) :=
  ltv (sS C 0 ((C.1 0) &&& (x1 ^^^ (-1)))) (fun C_1 =>
  ltv (sS C_1 1 ((C_1.1 1) &&& (x1 ^^^ (-1)))) (fun C_2 =>
  some C_2))

def pX6_deduce (C : St) : Option (St) :=
  bd (pX0_run C (C.1 0) (C.1 1)) (fun u_1 =>
  some u_1)

def pX6_countUnknown (C : St) : Option (Int32 × St) :=
  bd (pX6_deduce C) (fun u_1 =>
  bd (pJ6_bitCount_0f7a4 ((u_1.1 7) ||| (u_1.1 8))) (fun r_2 =>
  some ((u_1.1 3) - r_2, u_1)))

def pX6_writeLine (C : St) : Option (St) :=
  bd (pX6_deduce C) (fun u_1 =>
  bd (pX1_write u_1 (u_1.1 3)) (fun u_2 =>
  some u_2))

def pX6_retractAll (C : St) : Option (Int32 × St) :=
  ltv ((C.1 0) ||| (C.1 1)) (fun v_1 =>
  bd (pX6_takeBack C v_1) (fun u_2 =>
  bd (pJ6_bitCount_0f7a4 v_1) (fun r_3 =>
  some (r_3, u_2))))

def pX6_complete (C : St) : Option (Int32 × St) :=
  bd (pX6_cheapest C) (fun r_1 =>
  bd (pX5_allFeatures C) (fun r_2 =>
  ltv (r_2 &&& (((1 ||| (C.1 0)) ||| (C.1 1)) ^^^ (-1))) (fun v_3 =>
  ltv (sS C 0 ((C.1 0) ||| (v_3 &&& r_1))) (fun C_4 =>
  ltv (sS C_4 1 ((C_4.1 1) ||| (v_3 &&& (r_1 ^^^ (-1))))) (fun C_5 =>
  bd (pX2_ofSet C_5 r_1) (fun r_6 =>
  some (r_6, C_5)))))))

def pX6_unknown (C : St) : Option (Int32 × St) :=
  bd (pX6_countUnknown C) (fun u_1 =>
  some (u_1.1, u_1.2))

def pX6_lineLength (C : St) : Option (Int32 × St) :=
  bd (pX6_writeLine C) (fun u_1 =>
  some (u_1.1 9, u_1))

def pX6_knownShare (C : St) : Option (UInt32 × St) :=
  ltv (C.1 3) (fun v_1 =>
  bd (pX6_countUnknown C) (fun u_2 =>
  ltv (v_1 - (u_2.1)) (fun v_3 =>
  if v_1 ≤ 0 then
    some (FP.fconst0, u_2.2)
  else
    gd (okN32 (FP.fdiv (FP.i2f v_3) (FP.i2f v_1))) (
    some (FP.fdiv (FP.i2f v_3) (FP.i2f v_1), u_2.2)))))

def pX6_knowledgeAgrees (C : St) (x1 : Int32) (x2 : Int32) : Option (Int32 × St) :=
  bd (pX6_deduce C) (fun u_1 =>
  if ((u_1.1 7) &&& (x1 ^^^ (-1))) = 0 then
    if ((u_1.1 8) &&& x2) = 0 then
      some (1, u_1)
    else
      some (0, u_1)
  else
    some (0, u_1))

def pX6_meanPrice_49 (k16 : St → Int64 → Int64 → Int32 → Int32 → Option (UInt64)) (C : St) (x1 : Int64) (x3 : Int64) (x5 : Int32) (x6 : Int32) : Option (UInt64) :=
  ltv (x6 + 1) (fun v_3 =>
  k16 C x1 x3 x5 v_3)

def pX6_meanPrice_16_b (k16 : St → Int64 → Int64 → Int32 → Int32 → Option (UInt64)) (C : St) (x1 : Int64) (x3 : Int64) (x5 : Int32) (x6 : Int32) : Option (UInt64) :=
  if x5 < x6 then
    if (lg_cmp x3 0) ≤ 0 then
      some (FP.dconst0)
    else
      gd (okN64 (FP.ddiv (FP.l2d x1) (FP.l2d x3))) (
      some (FP.ddiv (FP.l2d x1) (FP.l2d x3)))
  else
    bd (pX6_isCompletion C x6) (fun r_2 =>
    if r_2 = 0 then
      pX6_meanPrice_49 k16 C x1 x3 x5 x6
    else
      bd (pX2_ofSet C x6) (fun r_4 =>
      ltv (x1 + (r_4.toInt64)) (fun v_5 =>
      ltv (x3 + 1) (fun v_6 =>
      pX6_meanPrice_49 k16 C v_5 v_6 x5 x6))))

def pX6_meanPrice_16 : Nat → St → Int64 → Int64 → Int32 → Int32 → Option (UInt64)
  | 0 => fun _ _ _ _ _ => none
  | n + 1 => fun C x1 x3 x5 x6 => pX6_meanPrice_16_b (pX6_meanPrice_16 n) C x1 x3 x5 x6

def pX6_meanPrice (C : St) : Option (UInt64) :=
  bd (pX5_allFeatures C) (fun r_1 =>
  pX6_meanPrice_16 FU C 0 0 r_1 0)

def pX6_checkFeature_15 (C : St) : Option (Nat ⊕ Unit) :=
  some (.inl 1)

def pX6_checkFeature (C : St) (x1 : Int32) : Option (Nat ⊕ Unit) :=
  if x1 < 0 then
    pX6_checkFeature_15 C
  else
    if x1 < (C.1 3) then
      some (.inr ())
    else
      pX6_checkFeature_15 C

def pX6_checkNotRoot (C : St) (x1 : Int32) : Option (Nat ⊕ Unit) :=
  if x1 = 0 then
    some (.inl 2)
  else
    some (.inr ())

def pX6_checkDifferent (C : St) (x1 : Int32) (x2 : Int32) : Option (Nat ⊕ Unit) :=
  if x1 = x2 then
    some (.inl 2)
  else
    some (.inr ())

def pX6_checkDecidable (C : St) (x1 : Int32) : Option (Nat ⊕ Unit) :=
  tb (pX6_checkFeature C x1) (fun e => e) (fun r_1 =>
  tb (pX6_checkNotRoot C x1) (fun e => e) (fun r_2 =>
  bd (pX6_has C ((C.1 0) ||| (C.1 1)) x1) (fun r_3 =>
  if r_3 = 0 then
    some (.inr ())
  else
    some (.inl 3))))

def pX6_checkSet_15 (C : St) : Option (Nat ⊕ Unit) :=
  some (.inl 2)

def pX6_checkSet (C : St) (x1 : Int32) : Option (Nat ⊕ Unit) :=
  if x1 < 0 then
    pX6_checkSet_15 C
  else
    bd (pX5_allFeatures C) (fun r_1 =>
    if x1 ≤ r_1 then
      some (.inr ())
    else
      pX6_checkSet_15 C)

def pX6_stateOf (C : St) (x1 : Int32) : Option (Nat ⊕ Int32) :=
  tb (pX6_checkFeature C x1) (fun e => e) (fun r_1 =>
  ltv ((1 : Int32) <<< (x1 &&& 31)) (fun v_2 =>
  bd (pX4_reaches RU C 0 0 ((C.1 0) ||| v_2) (C.1 1)) (fun r_3 =>
  bd (pX4_reaches RU C 0 0 (C.1 0) ((C.1 1) ||| v_2)) (fun r_4 =>
  bd (pX6_stateLetter C x1 r_3 r_4) (fun r_5 =>
  gd (okC r_5) (
  some (.inr r_5)))))))

def pX6_statesAgree_33 (k2 : St → Int32 → Int32 → Int32 → Option (Int32)) (C : St) (x1 : Int32) (x2 : Int32) (x3 : Int32) (x4 : Int32) (t0 : Int32) : Option (Int32) :=
  tn (pX6_stateOf C x3) (fun r_3 =>
  bd (pX6_stateLetter C x3 x4 t0) (fun r_4 =>
  if r_3 = r_4 then
    ltv (x3 + 1) (fun v_5 =>
    k2 C x1 x2 v_5)
  else
    some 0))

def pX6_statesAgree_2_b (k2 : St → Int32 → Int32 → Int32 → Option (Int32)) (C : St) (x1 : Int32) (x2 : Int32) (x3 : Int32) : Option (Int32) :=
  if (C.1 3) ≤ x3 then
    some 1
  else
    bd (pX6_has C x2 x3) (fun r_1 =>
    bd (pX6_has C x1 x3) (fun r_2 =>
    if r_2 = 0 then
      pX6_statesAgree_33 k2 C x1 x2 x3 r_1 1
    else
      pX6_statesAgree_33 k2 C x1 x2 x3 r_1 0))

def pX6_statesAgree_2 : Nat → St → Int32 → Int32 → Int32 → Option (Int32)
  | 0 => fun _ _ _ _ => none
  | n + 1 => fun C x1 x2 x3 => pX6_statesAgree_2_b (pX6_statesAgree_2 n) C x1 x2 x3

def pX6_statesAgree (C : St) (x1 : Int32) (x2 : Int32) : Option (Int32) :=
  pX6_statesAgree_2 FU C x1 x2 0

def pX6_isSound (C : St) : Option (Int32 × St) :=
  bd (pX6_completions C) (fun r_1 =>
  bd (pX6_featuresInAll C) (fun r_2 =>
  bd (pX6_featuresInSome C) (fun r_3 =>
  if (lg_cmp r_1 0) ≤ 0 then
    some (0, C)
  else
    bd (pX6_completionsByAll C) (fun r_4 =>
    if (lg_cmp r_1 r_4) = 0 then
      bd (pX6_cheapest C) (fun r_5 =>
      bd (pX6_cheapestByAll C) (fun r_6 =>
      if r_5 = r_6 then
        bd (pX6_statesAgree C r_2 r_3) (fun r_7 =>
        if r_7 = 0 then
          some (0, C)
        else
          bd (pX6_knowledgeAgrees C r_2 r_3) (fun u_8 =>
          if (u_8.1) = 0 then
            some (0, u_8.2)
          else
            some (1, u_8.2)))
      else
        some (0, C)))
    else
      some (0, C)))))

def pX6_stateByAll_30 (C : St) (x1 : Int32) (x2 : Int32) (t0 : Int32) : Option (Nat ⊕ Int32) :=
  bd (pX6_stateLetter C x1 x2 t0) (fun r_6 =>
  gd (okC r_6) (
  some (.inr r_6)))

def pX6_stateByAll (C : St) (x1 : Int32) : Option (Nat ⊕ Int32) :=
  tb (pX6_checkFeature C x1) (fun e => e) (fun r_1 =>
  bd (pX6_featuresInSome C) (fun r_2 =>
  bd (pX6_has C r_2 x1) (fun r_3 =>
  bd (pX6_featuresInAll C) (fun r_4 =>
  bd (pX6_has C r_4 x1) (fun r_5 =>
  if r_5 = 0 then
    pX6_stateByAll_30 C x1 r_3 1
  else
    pX6_stateByAll_30 C x1 r_3 0)))))

def pX6_isConfiguration (C : St) (x1 : Int32) : Option (Nat ⊕ Int32) :=
  tb (pX6_checkSet C x1) (fun e => e) (fun r_1 =>
  bd (pX6_isAllowed C x1) (fun r_2 =>
  gd (okZ r_2) (
  some (.inr r_2))))

def pX6_price (C : St) (x1 : Int32) : Option (Nat ⊕ Int32) :=
  tb (pX6_checkSet C x1) (fun e => e) (fun r_1 =>
  bd (pX2_ofSet C x1) (fun r_2 =>
  some (.inr r_2)))

def pX6_decisionsAgainst_62 (k14 : St → Int32 → Int32 → Int32 → Int32 → Int32 → Option (Nat ⊕ Int32)) (C : St) (x1 : Int32) (x2 : Int32) (x3 : Int32) (x4 : Int32) (x5 : Int32) : Option (Nat ⊕ Int32) :=
  ltv (x5 + 1) (fun v_3 =>
  k14 C x1 x2 x3 x4 v_3)

def pX6_decisionsAgainst_14_b (k14 : St → Int32 → Int32 → Int32 → Int32 → Int32 → Option (Nat ⊕ Int32)) (C : St) (x1 : Int32) (x2 : Int32) (x3 : Int32) (x4 : Int32) (x5 : Int32) : Option (Nat ⊕ Int32) :=
  if x4 < x5 then
    if x3 = (-1) then
      some (.inl 5)
    else
      some (.inr x3)
  else
    bd (pX6_has C x5 x1) (fun r_2 =>
    if r_2 = x2 then
      bd (pX6_isAllowed C x5) (fun r_4 =>
      if r_4 = 0 then
        pX6_decisionsAgainst_62 k14 C x1 x2 x3 x4 x5
      else
        bd (pX6_smallerOf C x3 (((C.1 0) &&& (x5 ^^^ (-1))) ||| ((C.1 1) &&& x5))) (fun r_5 =>
        pX6_decisionsAgainst_62 k14 C x1 x2 r_5 x4 x5))
    else
      pX6_decisionsAgainst_62 k14 C x1 x2 x3 x4 x5)

def pX6_decisionsAgainst_14 : Nat → St → Int32 → Int32 → Int32 → Int32 → Int32 → Option (Nat ⊕ Int32)
  | 0 => fun _ _ _ _ _ _ => none
  | n + 1 => fun C x1 x2 x3 x4 x5 => pX6_decisionsAgainst_14_b (pX6_decisionsAgainst_14 n) C x1 x2 x3 x4 x5

def pX6_decisionsAgainst (C : St) (x1 : Int32) (x2 : Int32) : Option (Nat ⊕ Int32) :=
  bd (pX5_allFeatures C) (fun r_1 =>
  pX6_decisionsAgainst_14 FU C x1 x2 (-1) r_1 0)

def pX6_fewest (C : St) (x1 : Int32) (x2 : Int32) : Option (Nat ⊕ Int32) :=
  tb (pX6_checkFeature C x1) (fun e => e) (fun r_1 =>
  tb (pX6_decisionsAgainst C x1 x2) (fun e => e) (fun r_2 =>
  bd (pJ6_bitCount_0f7a4 r_2) (fun r_3 =>
  some (.inr r_3))))

def pX6_toRetract (C : St) (x1 : Int32) (x2 : Int32) : Option (Nat ⊕ Int32) :=
  tb (pX6_checkFeature C x1) (fun e => e) (fun r_1 =>
  tb (pX6_decisionsAgainst C x1 x2) (fun e => e) (fun r_2 =>
  some (.inr r_2)))

def pX6_addLayer (C : St) (x1 : Int32) (x2 : Int32) (x3 : Int32) : Option ((Nat × St) ⊕ (Int32 × St)) :=
  if (C.1 6) < 6 then
    bd (pX2_append C x1 x2 x3) (fun u_1 =>
    some (.inr ((u_1.1 6) + 1, u_1)))
  else
    some (.inl (3, C))

def pX6_addRule (C : St) (x1 : Int32) (x2 : Int32) (x3 : Int32) : Option ((Nat × St) ⊕ (Int32 × St)) :=
  if (C.1 5) < 20 then
    bd (pX3_append C x1 x2 x3) (fun u_1 =>
    ltv (u_1.1) (fun v_2 =>
    bd (pX6_hasCompletion u_1.2) (fun r_3 =>
    if r_3 = 0 then
      bd (pX3_dropLast u_1.2) (fun u_4 =>
      some (.inl (4, u_4)))
    else
      some (.inr (v_2, u_1.2)))))
  else
    some (.inl (3, C))

def pX6_addFeature_16 (C : St) : Option ((Nat × St) ⊕ (Int32 × St)) :=
  some (.inl (2, C))

def pX6_addFeature (C : St) (x1 : Int32) (x2 : Int32) : Option ((Nat × St) ⊕ (Int32 × St)) :=
  tb (pX6_checkFeature C x1) (fun e => (e, C)) (fun r_1 =>
  if x2 < 0 then
    pX6_addFeature_16 C
  else
    if x2 ≤ 999 then
      if (C.1 3) < 12 then
        bd (pX5_grow C x1) (fun u_2 =>
        ltv (u_2.1) (fun v_3 =>
        bd (pX2_setFirst u_2.2 v_3 x2) (fun u_4 =>
        some (.inr (v_3, u_4)))))
      else
        some (.inl (3, C))
    else
      pX6_addFeature_16 C)

def pX6_setMandatory_44 (C : St) (x1 : Int32) (x3 : Int32) (t1 : Int32) : Option ((Nat × St) ⊕ (Int32 × St)) :=
  ltv (sS C 2 t1) (fun C_5 =>
  bd (pX6_hasCompletion C_5) (fun r_6 =>
  if r_6 = 0 then
    ltv (sS C_5 2 x3) (fun C_8 =>
    some (.inl (4, C_8)))
  else
    bd (pX6_has C_5 x3 x1) (fun r_7 =>
    gd (okZ r_7) (
    some (.inr (r_7, C_5))))))

def pX6_setMandatory (C : St) (x1 : Int32) (x2 : Int32) : Option ((Nat × St) ⊕ (Int32 × St)) :=
  tb (pX6_checkFeature C x1) (fun e => (e, C)) (fun r_1 =>
  tb (pX6_checkNotRoot C x1) (fun e => (e, C)) (fun r_2 =>
  ltv (C.1 2) (fun v_3 =>
  ltv ((1 : Int32) <<< (x1 &&& 31)) (fun v_4 =>
  if x2 = 0 then
    pX6_setMandatory_44 C x1 v_3 (v_3 &&& (v_4 ^^^ (-1)))
  else
    pX6_setMandatory_44 C x1 v_3 (v_3 ||| v_4)))))

def pX6_setGroup_20 (C : St) : Option ((Nat × St) ⊕ (Int32 × St)) :=
  some (.inl (2, C))

def pX6_setGroup (C : St) (x1 : Int32) (x2 : Int32) (x3 : Int32) : Option ((Nat × St) ⊕ (Int32 × St)) :=
  tb (pX6_checkFeature C x1) (fun e => (e, C)) (fun r_1 =>
  if x2 < 0 then
    pX6_setGroup_20 C
  else
    if x3 < x2 then
      pX6_setGroup_20 C
    else
      if x3 ≤ 12 then
        gd (ix x1 12) (
        ltv (C.2 2 x1.toNatClampNeg) (fun v_2 =>
        gd (ix x1 12) (
        ltv (C.2 3 x1.toNatClampNeg) (fun v_3 =>
        gd (ix x1 12) (
        ltv (sA C 2 x1.toNatClampNeg x2) (fun C_4 =>
        gd (ix x1 12) (
        ltv (sA C_4 3 x1.toNatClampNeg x3) (fun C_5 =>
        bd (pX6_hasCompletion C_5) (fun r_6 =>
        if r_6 = 0 then
          gd (ix x1 12) (
          ltv (sA C_5 2 x1.toNatClampNeg v_2) (fun C_8 =>
          gd (ix x1 12) (
          ltv (sA C_8 3 x1.toNatClampNeg v_3) (fun C_9 =>
          some (.inl (4, C_9))))))
        else
          gd (ix x1 12) (
          bd (pJ6_bitCount_0f7a4 (C_5.2 1 x1.toNatClampNeg)) (fun r_7 =>
          some (.inr (r_7, C_5)))))))))))))
      else
        pX6_setGroup_20 C)

def pX6_require (C : St) (x1 : Int32) (x2 : Int32) : Option ((Nat × St) ⊕ (Int32 × St)) :=
  tb (pX6_checkFeature C x1) (fun e => (e, C)) (fun r_1 =>
  tb (pX6_checkFeature C x2) (fun e => (e, C)) (fun r_2 =>
  tb (pX6_checkDifferent C x1 x2) (fun e => (e, C)) (fun r_3 =>
  tb (pX6_addRule C ((1 : Int32) <<< (x2 &&& 31)) ((1 : Int32) <<< (x1 &&& 31)) (if x1 < x2 then x2 else x1)) (fun e => e) (fun u_4 =>
  some (.inr (u_4.1, u_4.2))))))

def pX6_exclude (C : St) (x1 : Int32) (x2 : Int32) : Option ((Nat × St) ⊕ (Int32 × St)) :=
  tb (pX6_checkFeature C x1) (fun e => (e, C)) (fun r_1 =>
  tb (pX6_checkFeature C x2) (fun e => (e, C)) (fun r_2 =>
  tb (pX6_checkDifferent C x1 x2) (fun e => (e, C)) (fun r_3 =>
  tb (pX6_addRule C 0 (((1 : Int32) <<< (x1 &&& 31)) ||| ((1 : Int32) <<< (x2 &&& 31))) (if x1 < x2 then x2 else x1)) (fun e => e) (fun u_4 =>
  some (.inr (u_4.1, u_4.2))))))

def pX6_any (C : St) (x1 : Int32) (x2 : Int32) (x3 : Int32) : Option ((Nat × St) ⊕ (Int32 × St)) :=
  tb (pX6_checkFeature C x1) (fun e => (e, C)) (fun r_1 =>
  tb (pX6_checkFeature C x2) (fun e => (e, C)) (fun r_2 =>
  tb (pX6_checkFeature C x3) (fun e => (e, C)) (fun r_3 =>
  tb (pX6_checkDifferent C x1 x2) (fun e => (e, C)) (fun r_4 =>
  tb (pX6_checkDifferent C x1 x3) (fun e => (e, C)) (fun r_5 =>
  tb (pX6_checkDifferent C x2 x3) (fun e => (e, C)) (fun r_6 =>
  ltv ((((1 : Int32) <<< (x1 &&& 31)) ||| ((1 : Int32) <<< (x2 &&& 31))) ||| ((1 : Int32) <<< (x3 &&& 31))) (fun v_7 =>
  tb (pX6_addRule C v_7 0 (if x1 < (if x2 < x3 then x3 else x2) then (if x2 < x3 then x3 else x2) else x1)) (fun e => e) (fun u_8 =>
  some (.inr (u_8.1, u_8.2))))))))))

def pX6_lift_15 (C : St) : Option ((Nat × St) ⊕ (Int32 × St)) :=
  some (.inl (5, C))

def pX6_lift (C : St) (x1 : Int32) : Option ((Nat × St) ⊕ (Int32 × St)) :=
  if x1 < 0 then
    pX6_lift_15 C
  else
    if x1 < (C.1 5) then
      bd (pX6_has C (C.1 4) x1) (fun r_1 =>
      if r_1 = 0 then
        some (.inl (3, C))
      else
        ltv (sS C 4 ((C.1 4) &&& (((1 : Int32) <<< (x1 &&& 31)) ^^^ (-1)))) (fun C_2 =>
        bd (pJ6_bitCount_0f7a4 (C_2.1 4)) (fun r_3 =>
        some (.inr (r_3, C_2)))))
    else
      pX6_lift_15 C

def pX6_choose (C : St) (x1 : Int32) : Option ((Nat × St) ⊕ (Int32 × St)) :=
  tb (pX6_checkDecidable C x1) (fun e => (e, C)) (fun r_1 =>
  ltv ((1 : Int32) <<< (x1 &&& 31)) (fun v_2 =>
  bd (pX4_reaches RU C 0 0 ((C.1 0) ||| v_2) (C.1 1)) (fun r_3 =>
  if r_3 = 0 then
    some (.inl (4, C))
  else
    ltv (sS C 0 ((C.1 0) ||| v_2)) (fun C_4 =>
    bd (pX6_countUnknown C_4) (fun u_5 =>
    some (.inr (u_5.1, u_5.2)))))))

def pX6_refuse (C : St) (x1 : Int32) : Option ((Nat × St) ⊕ (Int32 × St)) :=
  tb (pX6_checkDecidable C x1) (fun e => (e, C)) (fun r_1 =>
  ltv ((1 : Int32) <<< (x1 &&& 31)) (fun v_2 =>
  bd (pX4_reaches RU C 0 0 (C.1 0) ((C.1 1) ||| v_2)) (fun r_3 =>
  if r_3 = 0 then
    some (.inl (4, C))
  else
    ltv (sS C 1 ((C.1 1) ||| v_2)) (fun C_4 =>
    bd (pX6_countUnknown C_4) (fun u_5 =>
    some (.inr (u_5.1, u_5.2)))))))

def pX6_retract_49 (C : St) (x1 : Int32) (t0 : Int32) : Option ((Nat × St) ⊕ (Int32 × St)) :=
  bd (pX6_takeBack C ((1 : Int32) <<< (x1 &&& 31))) (fun u_4 =>
  gd (okC t0) (
  some (.inr (t0, u_4))))

def pX6_retract (C : St) (x1 : Int32) : Option ((Nat × St) ⊕ (Int32 × St)) :=
  tb (pX6_checkFeature C x1) (fun e => (e, C)) (fun r_1 =>
  bd (pX6_has C ((C.1 0) ||| (C.1 1)) x1) (fun r_2 =>
  if r_2 = 0 then
    some (.inl (3, C))
  else
    bd (pX6_has C (C.1 0) x1) (fun r_3 =>
    if r_3 = 0 then
      pX6_retract_49 C x1 114
    else
      pX6_retract_49 C x1 99)))

def pX6_known (C : St) (x1 : Int32) : Option ((Nat × St) ⊕ (Int32 × St)) :=
  tb (pX6_checkFeature C x1) (fun e => (e, C)) (fun r_1 =>
  bd (pX6_deduce C) (fun u_2 =>
  bd (pX6_has u_2 (u_2.1 7) x1) (fun r_3 =>
  if r_3 = 0 then
    bd (pX6_has u_2 (u_2.1 8) x1) (fun r_4 =>
    if r_4 = 0 then
      some (.inr (117, u_2))
    else
      some (.inr (110, u_2)))
  else
    some (.inr (105, u_2)))))

def pX6_reasonOf (C : St) (x1 : Int32) : Option ((Nat × St) ⊕ (Int32 × St)) :=
  tb (pX6_checkFeature C x1) (fun e => (e, C)) (fun r_1 =>
  bd (pX6_deduce C) (fun u_2 =>
  bd (pX0_knows u_2 x1) (fun r_3 =>
  if r_3 = 0 then
    some (.inl (5, u_2))
  else
    gd (ix x1 12) (
    gd (okC (u_2.2 11 x1.toNatClampNeg)) (
    some (.inr (u_2.2 11 x1.toNatClampNeg, u_2)))))))

def pX6_reasonRule_34 (C : St) : Option ((Nat × St) ⊕ (Int32 × St)) :=
  some (.inl (5, C))

def pX6_reasonRule (C : St) (x1 : Int32) : Option ((Nat × St) ⊕ (Int32 × St)) :=
  tb (pX6_checkFeature C x1) (fun e => (e, C)) (fun r_1 =>
  bd (pX6_deduce C) (fun u_2 =>
  bd (pX0_knows u_2 x1) (fun r_3 =>
  if r_3 = 0 then
    pX6_reasonRule_34 u_2
  else
    gd (ix x1 12) (
    if (u_2.2 11 x1.toNatClampNeg) = 114 then
      gd (ix x1 12) (
      some (.inr (u_2.2 12 x1.toNatClampNeg, u_2)))
    else
      pX6_reasonRule_34 u_2))))

def pX6_addBundle_21 (C : St) : Option ((Nat × St) ⊕ (Int32 × St)) :=
  some (.inl (2, C))

def pX6_addBundle (C : St) (x1 : Int32) (x2 : Int32) (x3 : Int32) : Option ((Nat × St) ⊕ (Int32 × St)) :=
  tb (pX6_checkFeature C x1) (fun e => (e, C)) (fun r_1 =>
  tb (pX6_checkFeature C x2) (fun e => (e, C)) (fun r_2 =>
  if x3 < 0 then
    pX6_addBundle_21 C
  else
    if x3 ≤ 999 then
      tb (pX6_addLayer C 0 (((1 : Int32) <<< (x1 &&& 31)) ||| ((1 : Int32) <<< (x2 &&& 31))) x3) (fun e => e) (fun u_3 =>
      some (.inr (u_3.1, u_3.2)))
    else
      pX6_addBundle_21 C))

def pX6_addPercent_10 (C : St) : Option ((Nat × St) ⊕ (Int32 × St)) :=
  some (.inl (2, C))

def pX6_addPercent (C : St) (x1 : Int32) : Option ((Nat × St) ⊕ (Int32 × St)) :=
  if x1 < 0 then
    pX6_addPercent_10 C
  else
    if x1 ≤ 100 then
      tb (pX6_addLayer C 1 0 x1) (fun e => e) (fun u_1 =>
      some (.inr (u_1.1, u_1.2)))
    else
      pX6_addPercent_10 C

def pX6_addSurcharge_21 (C : St) : Option ((Nat × St) ⊕ (Int32 × St)) :=
  some (.inl (2, C))

def pX6_addSurcharge (C : St) (x1 : Int32) (x2 : Int32) : Option ((Nat × St) ⊕ (Int32 × St)) :=
  if x1 < 0 then
    pX6_addSurcharge_21 C
  else
    if 12 < x1 then
      pX6_addSurcharge_21 C
    else
      if x2 < 0 then
        pX6_addSurcharge_21 C
      else
        if x2 ≤ 999 then
          tb (pX6_addLayer C 2 x1 x2) (fun e => e) (fun u_1 =>
          some (.inr (u_1.1, u_1.2)))
        else
          pX6_addSurcharge_21 C

def pX6_removeLayer (C : St) : Option ((Nat × St) ⊕ (Int32 × St)) :=
  if 0 < (C.1 6) then
    ltv (sS C 6 ((C.1 6) - 1)) (fun C_1 =>
    some (.inr ((C_1.1 6) + 1, C_1)))
  else
    some (.inl (3, C))

def pX6_force_53 (C : St) (x3 : Int32) : Option ((Nat × St) ⊕ (Int32 × St)) :=
  bd (pJ6_bitCount_0f7a4 x3) (fun r_6 =>
  some (.inr (r_6, C)))

def pX6_force (C : St) (x1 : Int32) (x2 : Int32) : Option ((Nat × St) ⊕ (Int32 × St)) :=
  tb (pX6_checkFeature C x1) (fun e => (e, C)) (fun r_1 =>
  tb (pX6_checkNotRoot C x1) (fun e => (e, C)) (fun r_2 =>
  tb (pX6_decisionsAgainst C x1 x2) (fun e => (e, C)) (fun r_3 =>
  bd (pX6_takeBack C r_3) (fun u_4 =>
  if x2 = 0 then
    ltv (sS u_4 1 ((u_4.1 1) ||| ((1 : Int32) <<< (x1 &&& 31)))) (fun C_5 =>
    pX6_force_53 C_5 r_3)
  else
    ltv (sS u_4 0 ((u_4.1 0) ||| ((1 : Int32) <<< (x1 &&& 31)))) (fun C_7 =>
    pX6_force_53 C_7 r_3)))))

def pX6_lineAt_19 (C : St) : Option ((Nat × St) ⊕ (Int32 × St)) :=
  some (.inl (1, C))

def pX6_lineAt (C : St) (x1 : Int32) : Option ((Nat × St) ⊕ (Int32 × St)) :=
  bd (pX6_writeLine C) (fun u_1 =>
  if x1 < 0 then
    pX6_lineAt_19 u_1
  else
    if x1 < (u_1.1 9) then
      gd (ix x1 64) (
      gd (okC (u_1.2 13 x1.toNatClampNeg)) (
      some (.inr (u_1.2 13 x1.toNatClampNeg, u_1))))
    else
      pX6_lineAt_19 u_1)

def pX7_isThrown_10 (C : St) (x1 : Int32) (t1 : Int32) : Option (Int32 × St) :=
  ltv (sS C 7 t1) (fun C_1 =>
  gd (okZ x1) (
  some (x1, C_1)))

def pX7_isThrown (C : St) (x1 : Int32) (x2 : Int32) : Option (Int32 × St) :=
  if x1 = 0 then
    pX7_isThrown_10 C x1 0
  else
    pX7_isThrown_10 C x1 x2

def pX7_becomes_36 (C : St) (x1 : Int32) (x3 : Int32) (t1 : Int32) (t2 : Int32) : Option (Int32 × St) :=
  ltv (sS C 6 (t1 ||| t2)) (fun C_2 =>
  gd (ix x1 12) (
  ltv (sA C_2 8 x1.toNatClampNeg (vp_nar .char x3)) (fun C_3 =>
  some (1, C_3))))

def pX7_becomes_16 (C : St) (x1 : Int32) (x2 : Int32) (x3 : Int32) (t1 : Int32) (t2 : Int32) : Option (Int32 × St) :=
  ltv (sS C 5 (t1 ||| t2)) (fun C_1 =>
  if x2 = 0 then
    pX7_becomes_36 C_1 x1 x3 (C_1.1 6) ((1 : Int32) <<< (x1 &&& 31))
  else
    pX7_becomes_36 C_1 x1 x3 (C_1.1 6) 0)

def pX7_becomes (C : St) (x1 : Int32) (x2 : Int32) (x3 : Int32) : Option (Int32 × St) :=
  if x2 = 0 then
    pX7_becomes_16 C x1 x2 x3 (C.1 5) 0
  else
    pX7_becomes_16 C x1 x2 x3 (C.1 5) ((1 : Int32) <<< (x1 &&& 31))

def pX7_isKnown_191 (C : St) (x1 : Int32) : Option (Int32 × St) :=
  bd (pX7_becomes C x1 0 103) (fun u_8 =>
  gd (okZ (u_8.1)) (
  some (u_8.1, u_8.2)))

def pX7_isKnown_255 (C : St) (t1 : Int32) (t2 : Int32) : Option (Int32 × St) :=
  bd (pX7_becomes C t1 t2 114) (fun u_13 =>
  gd (okZ (u_13.1)) (
  some (u_13.1, u_13.2)))

def pX7_isKnown_229 (k202 : St → Int32 → Int32 → Option (Int32 × St)) (C : St) (x1 : Int32) (x3 : Int32) (t0 : Int32) : Option (Int32 × St) :=
  if t0 = 0 then
    ltv (x3 + 1) (fun v_11 =>
    k202 C x1 v_11)
  else
    gd (ix x1 12) (
    ltv (sA C 15 x1.toNatClampNeg x3) (fun C_12 =>
    if t0 ≤ 0 then
      pX7_isKnown_255 C_12 x1 0
    else
      pX7_isKnown_255 C_12 x1 1))

def pX7_isKnown_202_b (k202 : St → Int32 → Int32 → Option (Int32 × St)) (C : St) (x1 : Int32) (x3 : Int32) : Option (Int32 × St) :=
  if (C.1 1) ≤ x3 then
    some (0, C)
  else
    gd (ix x3 20) (
    if (C.2 5 x3.toNatClampNeg) = 0 then
      bd (pX7_told C x3 x1) (fun r_10 =>
      pX7_isKnown_229 k202 C x1 x3 r_10)
    else
      pX7_isKnown_229 k202 C x1 x3 0)

def pX7_isKnown_202 : Nat → St → Int32 → Int32 → Option (Int32 × St)
  | 0 => fun _ _ _ => none
  | n + 1 => fun C x1 x3 => pX7_isKnown_202_b (pX7_isKnown_202 n) C x1 x3

def pX7_isKnown_161 (C : St) (x1 : Int32) : Option (Int32 × St) :=
  bd (pX7_children C x1 0) (fun r_7 =>
  gd (ix x1 12) (
  if r_7 < (C.2 2 x1.toNatClampNeg) then
    pX7_isKnown_191 C x1
  else
    bd (pX7_children C x1 1) (fun r_9 =>
    gd (ix x1 12) (
    if r_9 ≤ (C.2 3 x1.toNatClampNeg) then
      pX7_isKnown_202 FU C x1 0
    else
      pX7_isKnown_191 C x1))))

def pX7_isKnown_126 (C : St) (x1 : Int32) (x2 : Int32) : Option (Int32 × St) :=
  bd (pX7_has C (C.1 5) x2) (fun r_6 =>
  if r_6 = 0 then
    pX7_isKnown_161 C x1
  else
    bd (pX7_children C x2 0) (fun r_14 =>
    gd (ix x2 12) (
    if r_14 = (C.2 2 x2.toNatClampNeg) then
      bd (pX7_becomes C x1 1 110) (fun u_15 =>
      gd (okZ (u_15.1)) (
      some (u_15.1, u_15.2)))
    else
      pX7_isKnown_161 C x1)))

def pX7_isKnown_74 (C : St) (x1 : Int32) (x2 : Int32) : Option (Int32 × St) :=
  bd (pX7_hasOffChild C x1) (fun r_4 =>
  if r_4 = 0 then
    bd (pX7_has C (C.1 5) x2) (fun r_5 =>
    if r_5 = 0 then
      pX7_isKnown_126 C x1 x2
    else
      bd (pX7_children C x2 1) (fun r_16 =>
      gd (ix x2 12) (
      if r_16 = (C.2 3 x2.toNatClampNeg) then
        bd (pX7_becomes C x1 0 102) (fun u_17 =>
        gd (okZ (u_17.1)) (
        some (u_17.1, u_17.2)))
      else
        pX7_isKnown_126 C x1 x2)))
  else
    bd (pX7_becomes C x1 0 107) (fun u_18 =>
    gd (okZ (u_18.1)) (
    some (u_18.1, u_18.2))))

def pX7_isKnown (C : St) (x1 : Int32) : Option (Int32 × St) :=
  gd (ix x1 12) (
  ltv (C.2 0 x1.toNatClampNeg) (fun v_1 =>
  bd (pX7_children C x1 1) (fun r_2 =>
  if r_2 ≤ 0 then
    bd (pX7_has C (C.1 6) v_1) (fun r_3 =>
    if r_3 = 0 then
      gd (ix x1 12) (
      if (C.2 4 x1.toNatClampNeg) = 0 then
        pX7_isKnown_74 C x1 v_1
      else
        bd (pX7_has C (C.1 5) v_1) (fun r_19 =>
        if r_19 = 0 then
          pX7_isKnown_74 C x1 v_1
        else
          bd (pX7_becomes C x1 1 109) (fun u_20 =>
          gd (okZ (u_20.1)) (
          some (u_20.1, u_20.2)))))
    else
      bd (pX7_becomes C x1 0 112) (fun u_21 =>
      gd (okZ (u_21.1)) (
      some (u_21.1, u_21.2))))
  else
    bd (pX7_becomes C x1 1 99) (fun u_22 =>
    gd (okZ (u_22.1)) (
    some (u_22.1, u_22.2))))))

def pX7_deduces_105 (k66 : St → Int32 → Option (St)) (C : St) (t0 : Int32) : Option (St) :=
  k66 C t0

def pX7_deduces_102 (k66 : St → Int32 → Option (St)) (C : St) (x1 : Int32) : Option (St) :=
  pX7_deduces_105 k66 C (x1 + 1)

def pX7_deduces_66_b (k66 : St → Int32 → Option (St)) (C : St) (x1 : Int32) : Option (St) :=
  if (C.1 0) ≤ x1 then
    some C
  else
    bd (pX7_has C ((C.1 5) ||| (C.1 6)) x1) (fun r_3 =>
    if r_3 = 0 then
      bd (pX7_isKnown C x1) (fun u_4 =>
      if (u_4.1) = 0 then
        pX7_deduces_102 k66 u_4.2 x1
      else
        pX7_deduces_105 k66 u_4.2 1)
    else
      pX7_deduces_102 k66 C x1)

def pX7_deduces_66 : Nat → St → Int32 → Option (St)
  | 0 => fun _ _ => none
  | n + 1 => fun C x1 => pX7_deduces_66_b (pX7_deduces_66 n) C x1

def pX7_deduces_57 (k20 : St → Int32 → Option (St)) (C : St) (x1 : Int32) (t1 : Int32) (t2 : Int32) : Option (St) :=
  gd (ix t1 12) (
  ltv (sA C 8 t1.toNatClampNeg (vp_nar .char t2)) (fun C_6 =>
  ltv (x1 + 1) (fun v_7 =>
  k20 C_6 v_7)))

def pX7_deduces_20_b (k20 : St → Int32 → Option (St)) (C : St) (x1 : Int32) : Option (St) :=
  if (C.1 0) ≤ x1 then
    pX7_deduces_66 FU C 1
  else
    if x1 = 0 then
      pX7_deduces_57 k20 C x1 x1 111
    else
      bd (pX7_isDecided C x1) (fun r_5 =>
      if r_5 = 0 then
        pX7_deduces_57 k20 C x1 x1 45
      else
        pX7_deduces_57 k20 C x1 x1 100)

def pX7_deduces_20 : Nat → St → Int32 → Option (St)
  | 0 => fun _ _ => none
  | n + 1 => fun C x1 => pX7_deduces_20_b (pX7_deduces_20 n) C x1

def pX7_deduces (C : St) : Option (St) :=
  ltv (sS C 5 (1 ||| (C.1 3))) (fun C_1 =>
  ltv (sS C_1 6 (C_1.1 4)) (fun C_2 =>
  pX7_deduces_20 FU C_2 0))

def pX7_unknowns (C : St) : Option (Int32 × St) :=
  bd (pX7_deduces C) (fun u_1 =>
  bd (pJ6_bitCount_0f7a4 ((u_1.1 5) ||| (u_1.1 6))) (fun r_2 =>
  some ((u_1.1 0) - r_2, u_1)))

def pX7_addFeature_52 (C : St) (x1 : Int32) (x2 : Int32) (t1 : Int32) : Option (Int32 × St) :=
  bd (pX7_isThrown C t1 3) (fun u_5 =>
  if (u_5.1) = 0 then
    gd (ix (u_5.2.1 0) 12) (
    ltv (sA u_5.2 0 (u_5.2.1 0).toNatClampNeg x1) (fun C_6 =>
    gd (ix (C_6.1 0) 12) (
    ltv (sA C_6 1 (C_6.1 0).toNatClampNeg x2) (fun C_7 =>
    gd (ix (C_7.1 0) 12) (
    ltv (sA C_7 3 (C_7.1 0).toNatClampNeg 12) (fun C_8 =>
    ltv (sS C_8 0 ((C_8.1 0) + 1)) (fun C_9 =>
    some ((C_9.1 0) - 1, C_9))))))))
  else
    some (0, u_5.2))

def pX7_addFeature_30 (C : St) (x1 : Int32) (x2 : Int32) (t1 : Int32) : Option (Int32 × St) :=
  bd (pX7_isThrown C t1 2) (fun u_4 =>
  if (u_4.1) = 0 then
    if (u_4.2.1 0) = 12 then
      pX7_addFeature_52 u_4.2 x1 x2 1
    else
      pX7_addFeature_52 u_4.2 x1 x2 0
  else
    some (0, u_4.2))

def pX7_addFeature (C : St) (x1 : Int32) (x2 : Int32) : Option (Int32 × St) :=
  bd (pX7_isNone C x1) (fun r_1 =>
  bd (pX7_isThrown C r_1 1) (fun u_2 =>
  if (u_2.1) = 0 then
    bd (pX7_isIn u_2.2 x2 0 999) (fun r_3 =>
    if r_3 = 0 then
      pX7_addFeature_30 u_2.2 x1 x2 1
    else
      pX7_addFeature_30 u_2.2 x1 x2 0)
  else
    some (0, u_2.2)))

def pX7_setMandatory_23 (C : St) (x1 : Int32) (x2 : Int32) (t1 : Int32) : Option (Int32 × St) :=
  bd (pX7_isThrown C t1 2) (fun u_3 =>
  if (u_3.1) = 0 then
    gd (ix x1 12) (
    ltv (u_3.2.2 4 x1.toNatClampNeg) (fun v_4 =>
    gd (ix x1 12) (
    ltv (sA u_3.2 4 x1.toNatClampNeg (vp_nar .boolean x2)) (fun C_5 =>
    bd (pX7_isNoneLeft C_5) (fun r_6 =>
    bd (pX7_isThrown C_5 r_6 3) (fun u_7 =>
    if (u_7.1) = 0 then
      gd (okZ v_4) (
      some (v_4, u_7.2))
    else
      gd (ix x1 12) (
      ltv (sA u_7.2 4 x1.toNatClampNeg (vp_nar .boolean v_4)) (fun C_8 =>
      gd (okZ v_4) (
      some (v_4, C_8))))))))))
  else
    some (0, u_3.2))

def pX7_setMandatory (C : St) (x1 : Int32) (x2 : Int32) : Option (Int32 × St) :=
  bd (pX7_isNone C x1) (fun r_1 =>
  bd (pX7_isThrown C r_1 1) (fun u_2 =>
  if (u_2.1) = 0 then
    if x1 = 0 then
      pX7_setMandatory_23 u_2.2 x1 x2 1
    else
      pX7_setMandatory_23 u_2.2 x1 x2 0
  else
    some (0, u_2.2)))

def pX7_setGroup_133 (k106 : St → Int32 → Int32 → Int32 → Option (Int32 × St)) (C : St) (x1 : Int32) (x7 : Int32) (t0 : Int32) (t1 : Int32) : Option (Int32 × St) :=
  ltv (t0 + t1) (fun v_10 =>
  ltv (x7 + 1) (fun v_11 =>
  k106 C x1 v_10 v_11))

def pX7_setGroup_106_b (k106 : St → Int32 → Int32 → Int32 → Option (Int32 × St)) (C : St) (x1 : Int32) (x6 : Int32) (x7 : Int32) : Option (Int32 × St) :=
  if (C.1 0) ≤ x7 then
    some (x6, C)
  else
    gd (ix x7 12) (
    if (C.2 0 x7.toNatClampNeg) = x1 then
      pX7_setGroup_133 k106 C x1 x7 x6 1
    else
      pX7_setGroup_133 k106 C x1 x7 x6 0)

def pX7_setGroup_106 : Nat → St → Int32 → Int32 → Int32 → Option (Int32 × St)
  | 0 => fun _ _ _ _ => none
  | n + 1 => fun C x1 x6 x7 => pX7_setGroup_106_b (pX7_setGroup_106 n) C x1 x6 x7

def pX7_setGroup_100 (C : St) (x1 : Int32) : Option (Int32 × St) :=
  pX7_setGroup_106 FU C x1 0 1

def pX7_setGroup_33 (C : St) (x1 : Int32) (x2 : Int32) (x3 : Int32) (t1 : Int32) : Option (Int32 × St) :=
  bd (pX7_isThrown C t1 2) (fun u_3 =>
  if (u_3.1) = 0 then
    gd (ix x1 12) (
    ltv (u_3.2.2 2 x1.toNatClampNeg) (fun v_4 =>
    gd (ix x1 12) (
    ltv (u_3.2.2 3 x1.toNatClampNeg) (fun v_5 =>
    gd (ix x1 12) (
    ltv (sA u_3.2 2 x1.toNatClampNeg x2) (fun C_6 =>
    gd (ix x1 12) (
    ltv (sA C_6 3 x1.toNatClampNeg x3) (fun C_7 =>
    bd (pX7_isNoneLeft C_7) (fun r_8 =>
    bd (pX7_isThrown C_7 r_8 3) (fun u_9 =>
    if (u_9.1) = 0 then
      pX7_setGroup_100 u_9.2 x1
    else
      gd (ix x1 12) (
      ltv (sA u_9.2 2 x1.toNatClampNeg v_4) (fun C_12 =>
      gd (ix x1 12) (
      ltv (sA C_12 3 x1.toNatClampNeg v_5) (fun C_13 =>
      pX7_setGroup_100 C_13 x1))))))))))))))
  else
    some (0, u_3.2))

def pX7_setGroup_28 (C : St) (x1 : Int32) (x2 : Int32) (x3 : Int32) : Option (Int32 × St) :=
  pX7_setGroup_33 C x1 x2 x3 1

def pX7_setGroup (C : St) (x1 : Int32) (x2 : Int32) (x3 : Int32) : Option (Int32 × St) :=
  bd (pX7_isNone C x1) (fun r_1 =>
  bd (pX7_isThrown C r_1 1) (fun u_2 =>
  if (u_2.1) = 0 then
    if x2 < 0 then
      pX7_setGroup_28 u_2.2 x1 x2 x3
    else
      bd (pX7_isIn u_2.2 x3 x2 12) (fun r_14 =>
      if r_14 = 0 then
        pX7_setGroup_28 u_2.2 x1 x2 x3
      else
        pX7_setGroup_33 u_2.2 x1 x2 x3 0)
  else
    some (0, u_2.2)))

def pX7_adds_181 (C : St) : Option (Int32 × St) :=
  some ((C.1 1) - 1, C)

def pX7_adds_89 (C : St) (x1 : Int32) (x2 : Int32) (x3 : Int32) (x4 : Int32) (t1 : Int32) : Option (Int32 × St) :=
  bd (pX7_isThrown C t1 3) (fun u_4 =>
  if (u_4.1) = 0 then
    gd (ix (u_4.2.1 1) 20) (
    ltv (sA u_4.2 6 (u_4.2.1 1).toNatClampNeg (vp_nar .char x1)) (fun C_5 =>
    gd (ix (C_5.1 1) 20) (
    ltv (sA C_5 9 (C_5.1 1).toNatClampNeg x2) (fun C_6 =>
    gd (ix (C_6.1 1) 20) (
    ltv (sA C_6 10 (C_6.1 1).toNatClampNeg x3) (fun C_7 =>
    gd (ix (C_7.1 1) 20) (
    ltv (sA C_7 11 (C_7.1 1).toNatClampNeg x4) (fun C_8 =>
    gd (ix (C_8.1 1) 20) (
    ltv (sA C_8 5 (C_8.1 1).toNatClampNeg (vp_nar .boolean 0)) (fun C_9 =>
    ltv (sS C_9 1 ((C_9.1 1) + 1)) (fun C_10 =>
    bd (pX7_isNoneLeft C_10) (fun r_11 =>
    bd (pX7_isThrown C_10 r_11 4) (fun u_12 =>
    if (u_12.1) = 0 then
      pX7_adds_181 u_12.2
    else
      ltv (sS u_12.2 1 ((u_12.2.1 1) - 1)) (fun C_13 =>
      pX7_adds_181 C_13))))))))))))))
  else
    some (0, u_4.2))

def pX7_adds_67 (C : St) (x1 : Int32) (x2 : Int32) (x3 : Int32) (x4 : Int32) (t1 : Int32) : Option (Int32 × St) :=
  bd (pX7_isThrown C t1 2) (fun u_3 =>
  if (u_3.1) = 0 then
    if (u_3.2.1 1) = 20 then
      pX7_adds_89 u_3.2 x1 x2 x3 x4 1
    else
      pX7_adds_89 u_3.2 x1 x2 x3 x4 0
  else
    some (0, u_3.2))

def pX7_adds_62 (C : St) (x1 : Int32) (x2 : Int32) (x3 : Int32) (x4 : Int32) : Option (Int32 × St) :=
  pX7_adds_67 C x1 x2 x3 x4 1

def pX7_adds_66 (C : St) (x1 : Int32) (x2 : Int32) (x3 : Int32) (x4 : Int32) : Option (Int32 × St) :=
  pX7_adds_67 C x1 x2 x3 x4 0

def pX7_adds_31 (C : St) (x1 : Int32) (x2 : Int32) (x3 : Int32) (x4 : Int32) (t1 : Int32) : Option (Int32 × St) :=
  bd (pX7_isThrown C t1 1) (fun u_2 =>
  if (u_2.1) = 0 then
    if x2 = x3 then
      pX7_adds_62 u_2.2 x1 x2 x3 x4
    else
      if x1 = 97 then
        if x2 = x4 then
          pX7_adds_62 u_2.2 x1 x2 x3 x4
        else
          if x3 = x4 then
            pX7_adds_62 u_2.2 x1 x2 x3 x4
          else
            pX7_adds_66 u_2.2 x1 x2 x3 x4
      else
        pX7_adds_66 u_2.2 x1 x2 x3 x4
  else
    some (0, u_2.2))

def pX7_adds_26 (C : St) (x1 : Int32) (x2 : Int32) (x3 : Int32) (x4 : Int32) : Option (Int32 × St) :=
  pX7_adds_31 C x1 x2 x3 x4 1

def pX7_adds (C : St) (x1 : Int32) (x2 : Int32) (x3 : Int32) (x4 : Int32) : Option (Int32 × St) :=
  bd (pX7_isNone C x2) (fun r_1 =>
  if r_1 = 0 then
    bd (pX7_isNone C x3) (fun r_14 =>
    if r_14 = 0 then
      bd (pX7_isNone C x4) (fun r_15 =>
      if r_15 = 0 then
        pX7_adds_31 C x1 x2 x3 x4 0
      else
        pX7_adds_26 C x1 x2 x3 x4)
    else
      pX7_adds_26 C x1 x2 x3 x4)
  else
    pX7_adds_26 C x1 x2 x3 x4)

def pX7_require (C : St) (x1 : Int32) (x2 : Int32) : Option (Int32 × St) :=
  bd (pX7_adds C 114 x1 x2 x1) (fun u_1 =>
  some (u_1.1, u_1.2))

def pX7_exclude (C : St) (x1 : Int32) (x2 : Int32) : Option (Int32 × St) :=
  bd (pX7_adds C 101 x1 x2 x1) (fun u_1 =>
  some (u_1.1, u_1.2))

def pX7_any (C : St) (x1 : Int32) (x2 : Int32) (x3 : Int32) : Option (Int32 × St) :=
  bd (pX7_adds C 97 x1 x2 x3) (fun u_1 =>
  some (u_1.1, u_1.2))

def pX7_lift_77 (k54 : St → Int32 → Int32 → Option (Int32 × St)) (C : St) (x3 : Int32) (t0 : Int32) (t1 : Int32) : Option (Int32 × St) :=
  ltv (t0 + t1) (fun v_5 =>
  ltv (x3 + 1) (fun v_6 =>
  k54 C v_5 v_6))

def pX7_lift_54_b (k54 : St → Int32 → Int32 → Option (Int32 × St)) (C : St) (x2 : Int32) (x3 : Int32) : Option (Int32 × St) :=
  if (C.1 1) ≤ x3 then
    some (x2, C)
  else
    gd (ix x3 20) (
    if (C.2 5 x3.toNatClampNeg) = 0 then
      pX7_lift_77 k54 C x3 x2 1
    else
      pX7_lift_77 k54 C x3 x2 0)

def pX7_lift_54 : Nat → St → Int32 → Int32 → Option (Int32 × St)
  | 0 => fun _ _ _ => none
  | n + 1 => fun C x2 x3 => pX7_lift_54_b (pX7_lift_54 n) C x2 x3

def pX7_lift_20 (C : St) (x1 : Int32) (t1 : Int32) : Option (Int32 × St) :=
  bd (pX7_isThrown C t1 1) (fun u_2 =>
  if (u_2.1) = 0 then
    gd (ix x1 20) (
    bd (pX7_isThrown u_2.2 (u_2.2.2 5 x1.toNatClampNeg) 2) (fun u_3 =>
    if (u_3.1) = 0 then
      gd (ix x1 20) (
      ltv (sA u_3.2 5 x1.toNatClampNeg (vp_nar .boolean 1)) (fun C_4 =>
      pX7_lift_54 FU C_4 0 0))
    else
      some (0, u_3.2)))
  else
    some (0, u_2.2))

def pX7_lift (C : St) (x1 : Int32) : Option (Int32 × St) :=
  bd (pX7_isIn C x1 0 ((C.1 1) - 1)) (fun r_1 =>
  if r_1 = 0 then
    pX7_lift_20 C x1 1
  else
    pX7_lift_20 C x1 0)

def pX7_decides_125 (C : St) : Option (Int32 × St) :=
  bd (pX7_unknowns C) (fun u_10 =>
  some (u_10.1, u_10.2))

def pX7_decides_81 (C : St) (x1 : Int32) (t1 : Int32) (t2 : Int32) : Option (Int32 × St) :=
  ltv (sS C 4 (t1 ||| t2)) (fun C_7 =>
  bd (pX7_isNoneLeft C_7) (fun r_8 =>
  bd (pX7_isThrown C_7 r_8 4) (fun u_9 =>
  if (u_9.1) = 0 then
    pX7_decides_125 u_9.2
  else
    ltv (sS u_9.2 3 ((u_9.2.1 3) &&& (((1 : Int32) <<< (x1 &&& 31)) ^^^ (-1)))) (fun C_11 =>
    ltv (sS C_11 4 ((C_11.1 4) &&& (((1 : Int32) <<< (x1 &&& 31)) ^^^ (-1)))) (fun C_12 =>
    pX7_decides_125 C_12)))))

def pX7_decides_61 (C : St) (x1 : Int32) (x2 : Int32) (t1 : Int32) (t2 : Int32) : Option (Int32 × St) :=
  ltv (sS C 3 (t1 ||| t2)) (fun C_6 =>
  if x2 = 0 then
    pX7_decides_81 C_6 x1 (C_6.1 4) ((1 : Int32) <<< (x1 &&& 31))
  else
    pX7_decides_81 C_6 x1 (C_6.1 4) 0)

def pX7_decides_23 (C : St) (x1 : Int32) (x2 : Int32) (t1 : Int32) : Option (Int32 × St) :=
  bd (pX7_isThrown C t1 2) (fun u_3 =>
  if (u_3.1) = 0 then
    bd (pX7_isDecided u_3.2 x1) (fun r_4 =>
    bd (pX7_isThrown u_3.2 r_4 3) (fun u_5 =>
    if (u_5.1) = 0 then
      if x2 = 0 then
        pX7_decides_61 u_5.2 x1 x2 (u_5.2.1 3) 0
      else
        pX7_decides_61 u_5.2 x1 x2 (u_5.2.1 3) ((1 : Int32) <<< (x1 &&& 31))
    else
      some (0, u_5.2)))
  else
    some (0, u_3.2))

def pX7_decides (C : St) (x1 : Int32) (x2 : Int32) : Option (Int32 × St) :=
  bd (pX7_isNone C x1) (fun r_1 =>
  bd (pX7_isThrown C r_1 1) (fun u_2 =>
  if (u_2.1) = 0 then
    if x1 = 0 then
      pX7_decides_23 u_2.2 x1 x2 1
    else
      pX7_decides_23 u_2.2 x1 x2 0
  else
    some (0, u_2.2)))

def pX7_choose (C : St) (x1 : Int32) : Option (Int32 × St) :=
  bd (pX7_decides C x1 1) (fun u_1 =>
  some (u_1.1, u_1.2))

def pX7_refuse (C : St) (x1 : Int32) : Option (Int32 × St) :=
  bd (pX7_decides C x1 0) (fun u_1 =>
  some (u_1.1, u_1.2))

def pX7_retract_55 (C : St) (x1 : Int32) (t0 : Int32) : Option (Int32 × St) :=
  ltv (sS C 3 ((C.1 3) &&& (((1 : Int32) <<< (x1 &&& 31)) ^^^ (-1)))) (fun C_6 =>
  ltv (sS C_6 4 ((C_6.1 4) &&& (((1 : Int32) <<< (x1 &&& 31)) ^^^ (-1)))) (fun C_7 =>
  gd (okC t0) (
  some (t0, C_7))))

def pX7_retract_27 (C : St) (x1 : Int32) (t1 : Int32) : Option (Int32 × St) :=
  bd (pX7_isThrown C t1 2) (fun u_4 =>
  if (u_4.1) = 0 then
    bd (pX7_has u_4.2 (u_4.2.1 3) x1) (fun r_5 =>
    if r_5 = 0 then
      pX7_retract_55 u_4.2 x1 114
    else
      pX7_retract_55 u_4.2 x1 99)
  else
    some (45, u_4.2))

def pX7_retract (C : St) (x1 : Int32) : Option (Int32 × St) :=
  bd (pX7_isNone C x1) (fun r_1 =>
  bd (pX7_isThrown C r_1 1) (fun u_2 =>
  if (u_2.1) = 0 then
    bd (pX7_isDecided u_2.2 x1) (fun r_3 =>
    if r_3 = 0 then
      pX7_retract_27 u_2.2 x1 1
    else
      pX7_retract_27 u_2.2 x1 0)
  else
    some (45, u_2.2)))

def pX7_retractAll (C : St) : Option (Int32 × St) :=
  ltv (sS C 7 0) (fun C_1 =>
  bd (pJ6_bitCount_0f7a4 ((C_1.1 3) ||| (C_1.1 4))) (fun r_2 =>
  ltv (sS C_1 3 0) (fun C_3 =>
  ltv (sS C_3 4 0) (fun C_4 =>
  some (r_2, C_4)))))

def pX7_stateOf_84 (k23 : St → Int32 → Int32 → Int32 → Int32 → Option (Int32 × St)) (C : St) (x1 : Int32) (x2 : Int32) (x4 : Int32) (t0 : Int32) (t1 : Int32) : Option (Int32 × St) :=
  ltv (t0 + t1) (fun v_7 =>
  ltv (x4 + 2) (fun v_8 =>
  k23 C x1 x2 v_7 v_8))

def pX7_stateOf_83 (k23 : St → Int32 → Int32 → Int32 → Int32 → Option (Int32 × St)) (C : St) (x1 : Int32) (x2 : Int32) (x4 : Int32) (t0 : Int32) : Option (Int32 × St) :=
  pX7_stateOf_84 k23 C x1 x2 x4 t0 0

def pX7_stateOf_62 (k23 : St → Int32 → Int32 → Int32 → Int32 → Option (Int32 × St)) (C : St) (x1 : Int32) (x3 : Int32) (x4 : Int32) (x5 : Int32) (t0 : Int32) (t1 : Int32) : Option (Int32 × St) :=
  ltv (t0 + t1) (fun v_6 =>
  if x5 = 0 then
    pX7_stateOf_83 k23 C x1 v_6 x4 x3
  else
    bd (pX7_has C x4 x1) (fun r_9 =>
    if r_9 = 0 then
      pX7_stateOf_84 k23 C x1 v_6 x4 x3 1
    else
      pX7_stateOf_83 k23 C x1 v_6 x4 x3))

def pX7_stateOf_61 (k23 : St → Int32 → Int32 → Int32 → Int32 → Option (Int32 × St)) (C : St) (x1 : Int32) (x3 : Int32) (x4 : Int32) (x5 : Int32) (t0 : Int32) : Option (Int32 × St) :=
  pX7_stateOf_62 k23 C x1 x3 x4 x5 t0 0

def pX7_stateOf_23_b (k23 : St → Int32 → Int32 → Int32 → Int32 → Option (Int32 × St)) (C : St) (x1 : Int32) (x2 : Int32) (x3 : Int32) (x4 : Int32) : Option (Int32 × St) :=
  if ((1 : Int32) <<< ((C.1 0) &&& 31)) ≤ x4 then
    bd (pX7_has C (C.1 3) x1) (fun r_3 =>
    if r_3 = 0 then
      bd (pX7_has C (C.1 4) x1) (fun r_4 =>
      if r_4 = 0 then
        if x3 = 0 then
          some (97, C)
        else
          if x2 = 0 then
            some (120, C)
          else
            some (111, C)
      else
        some (114, C))
    else
      some (99, C))
  else
    bd (pX7_completes C x4) (fun r_5 =>
    if r_5 = 0 then
      pX7_stateOf_61 k23 C x1 x3 x4 r_5 x2
    else
      bd (pX7_has C x4 x1) (fun r_10 =>
      if r_10 = 0 then
        pX7_stateOf_61 k23 C x1 x3 x4 r_5 x2
      else
        pX7_stateOf_62 k23 C x1 x3 x4 r_5 x2 1))

def pX7_stateOf_23 : Nat → St → Int32 → Int32 → Int32 → Int32 → Option (Int32 × St)
  | 0 => fun _ _ _ _ _ => none
  | n + 1 => fun C x1 x2 x3 x4 => pX7_stateOf_23_b (pX7_stateOf_23 n) C x1 x2 x3 x4

def pX7_stateOf (C : St) (x1 : Int32) : Option (Int32 × St) :=
  bd (pX7_isNone C x1) (fun r_1 =>
  bd (pX7_isThrown C r_1 1) (fun u_2 =>
  if (u_2.1) = 0 then
    pX7_stateOf_23 FU u_2.2 x1 0 0 1
  else
    some (45, u_2.2)))

def pX7_stateByAll (C : St) (x1 : Int32) : Option (Int32 × St) :=
  bd (pX7_stateOf C x1) (fun u_1 =>
  gd (okC (u_1.1)) (
  some (u_1.1, u_1.2)))

def pX7_known (C : St) (x1 : Int32) : Option (Int32 × St) :=
  bd (pX7_deduces C) (fun u_1 =>
  bd (pX7_isNone u_1 x1) (fun r_2 =>
  bd (pX7_isThrown u_1 r_2 1) (fun u_3 =>
  if (u_3.1) = 0 then
    bd (pX7_has u_3.2 (u_3.2.1 5) x1) (fun r_4 =>
    if r_4 = 0 then
      bd (pX7_has u_3.2 (u_3.2.1 6) x1) (fun r_5 =>
      if r_5 = 0 then
        some (117, u_3.2)
      else
        some (110, u_3.2))
    else
      some (105, u_3.2))
  else
    some (45, u_3.2))))

def pX7_reasonOf_34 (C : St) (x1 : Int32) (t1 : Int32) : Option (Int32 × St) :=
  bd (pX7_isThrown C t1 2) (fun u_4 =>
  if (u_4.1) = 0 then
    gd (ix x1 12) (
    gd (okC (u_4.2.2 8 x1.toNatClampNeg)) (
    some (u_4.2.2 8 x1.toNatClampNeg, u_4.2)))
  else
    some (45, u_4.2))

def pX7_reasonOf (C : St) (x1 : Int32) : Option (Int32 × St) :=
  bd (pX7_deduces C) (fun u_1 =>
  bd (pX7_isNone u_1 x1) (fun r_2 =>
  bd (pX7_isThrown u_1 r_2 1) (fun u_3 =>
  if (u_3.1) = 0 then
    gd (ix x1 12) (
    if (u_3.2.2 8 x1.toNatClampNeg) = 45 then
      pX7_reasonOf_34 u_3.2 x1 1
    else
      pX7_reasonOf_34 u_3.2 x1 0)
  else
    some (45, u_3.2))))

def pX7_reasonRule_34 (C : St) (x1 : Int32) (t1 : Int32) : Option (Int32 × St) :=
  bd (pX7_isThrown C t1 2) (fun u_4 =>
  if (u_4.1) = 0 then
    gd (ix x1 12) (
    some (u_4.2.2 15 x1.toNatClampNeg, u_4.2))
  else
    some (0, u_4.2))

def pX7_reasonRule (C : St) (x1 : Int32) : Option (Int32 × St) :=
  bd (pX7_deduces C) (fun u_1 =>
  bd (pX7_isNone u_1 x1) (fun r_2 =>
  bd (pX7_isThrown u_1 r_2 1) (fun u_3 =>
  if (u_3.1) = 0 then
    gd (ix x1 12) (
    if (u_3.2.2 8 x1.toNatClampNeg) = 114 then
      pX7_reasonRule_34 u_3.2 x1 0
    else
      pX7_reasonRule_34 u_3.2 x1 1)
  else
    some (0, u_3.2))))

def pX7_unknown (C : St) : Option (Int32 × St) :=
  ltv (sS C 7 0) (fun C_1 =>
  bd (pX7_unknowns C_1) (fun u_2 =>
  some (u_2.1, u_2.2)))

def pX7_isNoSet_20 (C : St) (t1 : Int32) : Option (Int32 × St) :=
  bd (pX7_isThrown C t1 1) (fun u_1 =>
  gd (okZ (u_1.1)) (
  some (u_1.1, u_1.2)))

def pX7_isNoSet_15 (C : St) : Option (Int32 × St) :=
  pX7_isNoSet_20 C 1

def pX7_isNoSet (C : St) (x1 : Int32) : Option (Int32 × St) :=
  if x1 < 0 then
    pX7_isNoSet_15 C
  else
    if x1 < ((1 : Int32) <<< ((C.1 0) &&& 31)) then
      pX7_isNoSet_20 C 0
    else
      pX7_isNoSet_15 C

def pX7_isConfiguration (C : St) (x1 : Int32) : Option (Int32 × St) :=
  bd (pX7_isNoSet C x1) (fun u_1 =>
  if (u_1.1) = 0 then
    bd (pX7_isGood u_1.2 x1) (fun r_2 =>
    if r_2 = 0 then
      some (0, u_1.2)
    else
      some (1, u_1.2))
  else
    some (0, u_1.2))

def pX7_completions_33 (k9 : St → Int64 → Int32 → Option (Int64 × St)) (C : St) (x3 : Int32) (t0 : Int64) (t1 : Int64) : Option (Int64 × St) :=
  ltv (t0 + t1) (fun v_3 =>
  ltv (x3 + 2) (fun v_4 =>
  k9 C v_3 v_4))

def pX7_completions_9_b (k9 : St → Int64 → Int32 → Option (Int64 × St)) (C : St) (x1 : Int64) (x3 : Int32) : Option (Int64 × St) :=
  if ((1 : Int32) <<< ((C.1 0) &&& 31)) ≤ x3 then
    some (x1, C)
  else
    bd (pX7_completes C x3) (fun r_2 =>
    if r_2 = 0 then
      pX7_completions_33 k9 C x3 x1 0
    else
      pX7_completions_33 k9 C x3 x1 1)

def pX7_completions_9 : Nat → St → Int64 → Int32 → Option (Int64 × St)
  | 0 => fun _ _ _ => none
  | n + 1 => fun C x1 x3 => pX7_completions_9_b (pX7_completions_9 n) C x1 x3

def pX7_completions (C : St) : Option (Int64 × St) :=
  ltv (sS C 7 0) (fun C_1 =>
  pX7_completions_9 FU C_1 0 1)

def pX7_completionsByAll (C : St) : Option (Int64 × St) :=
  bd (pX7_completions C) (fun u_1 =>
  some (u_1.1, u_1.2))

def pX7_layer (C : St) (x1 : Int32) (x2 : Int32) (x3 : Int32) (x4 : Int32) : Option (Int32 × St) :=
  gd (ix (C.1 2) 6) (
  ltv (sA C 7 (C.1 2).toNatClampNeg (vp_nar .char x1)) (fun C_1 =>
  gd (ix (C_1.1 2) 6) (
  ltv (sA C_1 12 (C_1.1 2).toNatClampNeg x2) (fun C_2 =>
  gd (ix (C_2.1 2) 6) (
  ltv (sA C_2 13 (C_2.1 2).toNatClampNeg x3) (fun C_3 =>
  gd (ix (C_3.1 2) 6) (
  ltv (sA C_3 14 (C_3.1 2).toNatClampNeg x4) (fun C_4 =>
  ltv (sS C_4 2 ((C_4.1 2) + 1)) (fun C_5 =>
  some ((C_5.1 2) + 1, C_5))))))))))

def pX7_addBundle_68 (C : St) (x1 : Int32) (x2 : Int32) (x3 : Int32) (t1 : Int32) : Option (Int32 × St) :=
  bd (pX7_isThrown C t1 3) (fun u_5 =>
  if (u_5.1) = 0 then
    bd (pX7_layer u_5.2 98 x1 x2 x3) (fun u_6 =>
    some (u_6.1, u_6.2))
  else
    some (0, u_5.2))

def pX7_addBundle_46 (C : St) (x1 : Int32) (x2 : Int32) (x3 : Int32) (t1 : Int32) : Option (Int32 × St) :=
  bd (pX7_isThrown C t1 2) (fun u_4 =>
  if (u_4.1) = 0 then
    if (u_4.2.1 2) = 6 then
      pX7_addBundle_68 u_4.2 x1 x2 x3 1
    else
      pX7_addBundle_68 u_4.2 x1 x2 x3 0
  else
    some (0, u_4.2))

def pX7_addBundle_22 (C : St) (x1 : Int32) (x2 : Int32) (x3 : Int32) (t1 : Int32) : Option (Int32 × St) :=
  bd (pX7_isThrown C t1 1) (fun u_2 =>
  if (u_2.1) = 0 then
    bd (pX7_isIn u_2.2 x3 0 999) (fun r_3 =>
    if r_3 = 0 then
      pX7_addBundle_46 u_2.2 x1 x2 x3 1
    else
      pX7_addBundle_46 u_2.2 x1 x2 x3 0)
  else
    some (0, u_2.2))

def pX7_addBundle_17 (C : St) (x1 : Int32) (x2 : Int32) (x3 : Int32) : Option (Int32 × St) :=
  pX7_addBundle_22 C x1 x2 x3 1

def pX7_addBundle (C : St) (x1 : Int32) (x2 : Int32) (x3 : Int32) : Option (Int32 × St) :=
  bd (pX7_isNone C x1) (fun r_1 =>
  if r_1 = 0 then
    bd (pX7_isNone C x2) (fun r_7 =>
    if r_7 = 0 then
      pX7_addBundle_22 C x1 x2 x3 0
    else
      pX7_addBundle_17 C x1 x2 x3)
  else
    pX7_addBundle_17 C x1 x2 x3)

def pX7_addPercent_38 (C : St) (x1 : Int32) (t1 : Int32) : Option (Int32 × St) :=
  bd (pX7_isThrown C t1 2) (fun u_3 =>
  if (u_3.1) = 0 then
    bd (pX7_layer u_3.2 112 0 0 x1) (fun u_4 =>
    some (u_4.1, u_4.2))
  else
    some (0, u_3.2))

def pX7_addPercent_16 (C : St) (x1 : Int32) (t1 : Int32) : Option (Int32 × St) :=
  bd (pX7_isThrown C t1 1) (fun u_2 =>
  if (u_2.1) = 0 then
    if (u_2.2.1 2) = 6 then
      pX7_addPercent_38 u_2.2 x1 1
    else
      pX7_addPercent_38 u_2.2 x1 0
  else
    some (0, u_2.2))

def pX7_addPercent (C : St) (x1 : Int32) : Option (Int32 × St) :=
  bd (pX7_isIn C x1 0 100) (fun r_1 =>
  if r_1 = 0 then
    pX7_addPercent_16 C x1 1
  else
    pX7_addPercent_16 C x1 0)

def pX7_addSurcharge_49 (C : St) (x1 : Int32) (x2 : Int32) (t1 : Int32) : Option (Int32 × St) :=
  bd (pX7_isThrown C t1 2) (fun u_3 =>
  if (u_3.1) = 0 then
    bd (pX7_layer u_3.2 115 x1 0 x2) (fun u_4 =>
    some (u_4.1, u_4.2))
  else
    some (0, u_3.2))

def pX7_addSurcharge_27 (C : St) (x1 : Int32) (x2 : Int32) (t1 : Int32) : Option (Int32 × St) :=
  bd (pX7_isThrown C t1 1) (fun u_2 =>
  if (u_2.1) = 0 then
    if (u_2.2.1 2) = 6 then
      pX7_addSurcharge_49 u_2.2 x1 x2 1
    else
      pX7_addSurcharge_49 u_2.2 x1 x2 0
  else
    some (0, u_2.2))

def pX7_addSurcharge_22 (C : St) (x1 : Int32) (x2 : Int32) : Option (Int32 × St) :=
  pX7_addSurcharge_27 C x1 x2 1

def pX7_addSurcharge (C : St) (x1 : Int32) (x2 : Int32) : Option (Int32 × St) :=
  bd (pX7_isIn C x1 0 12) (fun r_1 =>
  if r_1 = 0 then
    pX7_addSurcharge_22 C x1 x2
  else
    bd (pX7_isIn C x2 0 999) (fun r_5 =>
    if r_5 = 0 then
      pX7_addSurcharge_22 C x1 x2
    else
      pX7_addSurcharge_27 C x1 x2 0))

def pX7_removeLayer_13 (C : St) (t1 : Int32) : Option (Int32 × St) :=
  bd (pX7_isThrown C t1 1) (fun u_1 =>
  if (u_1.1) = 0 then
    ltv (sS u_1.2 2 ((u_1.2.1 2) - 1)) (fun C_2 =>
    some ((C_2.1 2) + 1, C_2))
  else
    some (0, u_1.2))

def pX7_removeLayer (C : St) : Option (Int32 × St) :=
  if (C.1 2) = 0 then
    pX7_removeLayer_13 C 1
  else
    pX7_removeLayer_13 C 0

def pX7_price (C : St) (x1 : Int32) : Option (Int32 × St) :=
  bd (pX7_isNoSet C x1) (fun u_1 =>
  if (u_1.1) = 0 then
    bd (pX7_priced u_1.2 x1) (fun r_2 =>
    some (r_2, u_1.2))
  else
    some (0, u_1.2))

def pX7_cheapest_45 (k9 : St → Int32 → Int32 → Option (Int32 × St)) (C : St) (x2 : Int32) (t0 : Int32) : Option (Int32 × St) :=
  ltv (x2 + 2) (fun v_3 =>
  k9 C t0 v_3)

def pX7_cheapest_44 (k9 : St → Int32 → Int32 → Option (Int32 × St)) (C : St) (x1 : Int32) (x2 : Int32) : Option (Int32 × St) :=
  pX7_cheapest_45 k9 C x2 x1

def pX7_cheapest_40 (k9 : St → Int32 → Int32 → Option (Int32 × St)) (C : St) (x2 : Int32) : Option (Int32 × St) :=
  pX7_cheapest_45 k9 C x2 x2

def pX7_cheapest_9_b (k9 : St → Int32 → Int32 → Option (Int32 × St)) (C : St) (x1 : Int32) (x2 : Int32) : Option (Int32 × St) :=
  if ((1 : Int32) <<< ((C.1 0) &&& 31)) ≤ x2 then
    some (x1, C)
  else
    bd (pX7_completes C x2) (fun r_2 =>
    if r_2 = 0 then
      pX7_cheapest_44 k9 C x1 x2
    else
      if x1 < 0 then
        pX7_cheapest_40 k9 C x2
      else
        bd (pX7_isCheaper C x2 x1) (fun r_4 =>
        if r_4 = 0 then
          pX7_cheapest_44 k9 C x1 x2
        else
          pX7_cheapest_40 k9 C x2))

def pX7_cheapest_9 : Nat → St → Int32 → Int32 → Option (Int32 × St)
  | 0 => fun _ _ _ => none
  | n + 1 => fun C x1 x2 => pX7_cheapest_9_b (pX7_cheapest_9 n) C x1 x2

def pX7_cheapest (C : St) : Option (Int32 × St) :=
  ltv (sS C 7 0) (fun C_1 =>
  pX7_cheapest_9 FU C_1 (-1) 1)

def pX7_cheapestByAll (C : St) : Option (Int32 × St) :=
  bd (pX7_cheapest C) (fun u_1 =>
  some (u_1.1, u_1.2))

def pX7_complete_59 (k7 : St → Int32 → Int32 → Option (Int32 × St)) (C : St) (x1 : Int32) (x2 : Int32) (t1 : Int32) (t2 : Int32) : Option (Int32 × St) :=
  ltv (sS C 4 (t1 ||| t2)) (fun C_7 =>
  ltv (x2 + 1) (fun v_8 =>
  k7 C_7 x1 v_8))

def pX7_complete_35 (k7 : St → Int32 → Int32 → Option (Int32 × St)) (C : St) (x1 : Int32) (x2 : Int32) (t1 : Int32) (t2 : Int32) : Option (Int32 × St) :=
  ltv (sS C 3 (t1 ||| t2)) (fun C_5 =>
  bd (pX7_has C_5 x1 x2) (fun r_6 =>
  if r_6 = 0 then
    pX7_complete_59 k7 C_5 x1 x2 (C_5.1 4) ((1 : Int32) <<< (x2 &&& 31))
  else
    pX7_complete_59 k7 C_5 x1 x2 (C_5.1 4) 0))

def pX7_complete_7_b (k7 : St → Int32 → Int32 → Option (Int32 × St)) (C : St) (x1 : Int32) (x2 : Int32) : Option (Int32 × St) :=
  if (C.1 0) ≤ x2 then
    bd (pX7_priced C x1) (fun r_3 =>
    some (r_3, C))
  else
    bd (pX7_has C x1 x2) (fun r_4 =>
    if r_4 = 0 then
      pX7_complete_35 k7 C x1 x2 (C.1 3) 0
    else
      pX7_complete_35 k7 C x1 x2 (C.1 3) ((1 : Int32) <<< (x2 &&& 31)))

def pX7_complete_7 : Nat → St → Int32 → Int32 → Option (Int32 × St)
  | 0 => fun _ _ _ => none
  | n + 1 => fun C x1 x2 => pX7_complete_7_b (pX7_complete_7 n) C x1 x2

def pX7_complete (C : St) : Option (Int32 × St) :=
  bd (pX7_cheapest C) (fun u_1 =>
  ltv (u_1.1) (fun v_2 =>
  pX7_complete_7 FU u_1.2 v_2 1))

def pX7_isNoWish_15 (C : St) (x3 : Int32) (t1 : Int32) : Option (Int32 × St) :=
  bd (pX7_isThrown C t1 x3) (fun u_2 =>
  gd (okZ (u_2.1)) (
  some (u_2.1, u_2.2)))

def pX7_isNoWish (C : St) (x1 : Int32) (x2 : Int32) (x3 : Int32) : Option (Int32 × St) :=
  bd (pX7_wrong C x1 x2) (fun r_1 =>
  if 0 ≤ r_1 then
    pX7_isNoWish_15 C x3 0
  else
    pX7_isNoWish_15 C x3 1)

def pX7_fewest (C : St) (x1 : Int32) (x2 : Int32) : Option (Int32 × St) :=
  bd (pX7_isNone C x1) (fun r_1 =>
  bd (pX7_isThrown C r_1 1) (fun u_2 =>
  if (u_2.1) = 0 then
    bd (pX7_isNoWish u_2.2 x1 x2 2) (fun u_3 =>
    if (u_3.1) = 0 then
      bd (pX7_wrong u_3.2 x1 x2) (fun r_4 =>
      bd (pJ6_bitCount_0f7a4 r_4) (fun r_5 =>
      some (r_5, u_3.2)))
    else
      some (0, u_3.2))
  else
    some (0, u_2.2)))

def pX7_toRetract (C : St) (x1 : Int32) (x2 : Int32) : Option (Int32 × St) :=
  bd (pX7_isNone C x1) (fun r_1 =>
  bd (pX7_isThrown C r_1 1) (fun u_2 =>
  if (u_2.1) = 0 then
    bd (pX7_isNoWish u_2.2 x1 x2 2) (fun u_3 =>
    if (u_3.1) = 0 then
      bd (pX7_wrong u_3.2 x1 x2) (fun r_4 =>
      some (r_4, u_3.2))
    else
      some (0, u_3.2))
  else
    some (0, u_2.2)))

def pX7_force_109 (C : St) (x3 : Int32) (t1 : Int32) (t2 : Int32) : Option (Int32 × St) :=
  ltv (sS C 4 (t1 ||| t2)) (fun C_9 =>
  bd (pJ6_bitCount_0f7a4 x3) (fun r_10 =>
  some (r_10, C_9)))

def pX7_force_89 (C : St) (x1 : Int32) (x2 : Int32) (x3 : Int32) (t1 : Int32) (t2 : Int32) : Option (Int32 × St) :=
  ltv (sS C 3 (t1 ||| t2)) (fun C_8 =>
  if x2 = 0 then
    pX7_force_109 C_8 x3 (C_8.1 4) ((1 : Int32) <<< (x1 &&& 31))
  else
    pX7_force_109 C_8 x3 (C_8.1 4) 0)

def pX7_force_23 (C : St) (x1 : Int32) (x2 : Int32) (t1 : Int32) : Option (Int32 × St) :=
  bd (pX7_isThrown C t1 2) (fun u_3 =>
  if (u_3.1) = 0 then
    bd (pX7_isNoWish u_3.2 x1 x2 3) (fun u_4 =>
    if (u_4.1) = 0 then
      bd (pX7_wrong u_4.2 x1 x2) (fun r_5 =>
      ltv (sS u_4.2 3 ((u_4.2.1 3) &&& (r_5 ^^^ (-1)))) (fun C_6 =>
      ltv (sS C_6 4 ((C_6.1 4) &&& (r_5 ^^^ (-1)))) (fun C_7 =>
      if x2 = 0 then
        pX7_force_89 C_7 x1 x2 r_5 (C_7.1 3) 0
      else
        pX7_force_89 C_7 x1 x2 r_5 (C_7.1 3) ((1 : Int32) <<< (x1 &&& 31)))))
    else
      some (0, u_4.2))
  else
    some (0, u_3.2))

def pX7_force (C : St) (x1 : Int32) (x2 : Int32) : Option (Int32 × St) :=
  bd (pX7_isNone C x1) (fun r_1 =>
  bd (pX7_isThrown C r_1 1) (fun u_2 =>
  if (u_2.1) = 0 then
    if x1 = 0 then
      pX7_force_23 u_2.2 x1 x2 1
    else
      pX7_force_23 u_2.2 x1 x2 0
  else
    some (0, u_2.2)))

def pX7_knownShare (C : St) : Option (UInt32 × St) :=
  ltv (sS C 7 0) (fun C_1 =>
  bd (pX7_unknowns C_1) (fun u_2 =>
  gd (okN32 (FP.fdiv (FP.i2f ((C_1.1 0) - (u_2.1))) (FP.i2f (u_2.2.1 0)))) (
  some (FP.fdiv (FP.i2f ((C_1.1 0) - (u_2.1))) (FP.i2f (u_2.2.1 0)), u_2.2))))

def pX7_meanPrice_56 (k11 : St → Int32 → Int32 → Int32 → Option (UInt64 × St)) (C : St) (x1 : Int32) (x3 : Int32) (t0 : Int32) (t1 : Int32) : Option (UInt64 × St) :=
  ltv (t0 + t1) (fun v_4 =>
  ltv (x3 + 2) (fun v_5 =>
  k11 C x1 v_4 v_5))

def pX7_meanPrice_43 (k11 : St → Int32 → Int32 → Int32 → Option (UInt64 × St)) (C : St) (x2 : Int32) (x3 : Int32) (x4 : Int32) (t0 : Int32) (t1 : Int32) : Option (UInt64 × St) :=
  ltv (t0 + t1) (fun v_3 =>
  if x4 = 0 then
    pX7_meanPrice_56 k11 C v_3 x3 x2 0
  else
    pX7_meanPrice_56 k11 C v_3 x3 x2 1)

def pX7_meanPrice_11_b (k11 : St → Int32 → Int32 → Int32 → Option (UInt64 × St)) (C : St) (x1 : Int32) (x2 : Int32) (x3 : Int32) : Option (UInt64 × St) :=
  if ((1 : Int32) <<< ((C.1 0) &&& 31)) ≤ x3 then
    gd (okN64 (FP.ddiv (FP.i2d x1) (FP.i2d x2))) (
    some (FP.ddiv (FP.i2d x1) (FP.i2d x2), C))
  else
    bd (pX7_completes C x3) (fun r_2 =>
    if r_2 = 0 then
      pX7_meanPrice_43 k11 C x2 x3 r_2 x1 0
    else
      bd (pX7_priced C x3) (fun r_6 =>
      pX7_meanPrice_43 k11 C x2 x3 r_2 x1 r_6))

def pX7_meanPrice_11 : Nat → St → Int32 → Int32 → Int32 → Option (UInt64 × St)
  | 0 => fun _ _ _ _ => none
  | n + 1 => fun C x1 x2 x3 => pX7_meanPrice_11_b (pX7_meanPrice_11 n) C x1 x2 x3

def pX7_meanPrice (C : St) : Option (UInt64 × St) :=
  ltv (sS C 7 0) (fun C_1 =>
  pX7_meanPrice_11 FU C_1 0 0 1)

def pX7_isSound (C : St) : Option (Int32 × St) :=
  ltv (sS C 7 0) (fun C_1 =>
  some (1, C_1))
