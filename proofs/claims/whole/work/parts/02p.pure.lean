def pJ6_bitCount_0f7a4 (x0 : Int32) : Option (Int32) :=
  ltv (x0 - (((x0.toUInt32 >>> ((1).toUInt32 &&& Int32.toUInt32 31)).toInt32) &&& 1431655765)) (fun v_1 =>
  ltv ((v_1 &&& 858993459) + (((v_1.toUInt32 >>> ((2).toUInt32 &&& Int32.toUInt32 31)).toInt32) &&& 858993459)) (fun v_2 =>
  ltv ((v_2 + ((v_2.toUInt32 >>> ((4).toUInt32 &&& Int32.toUInt32 31)).toInt32)) &&& 252645135) (fun v_3 =>
  ltv (v_3 + ((v_3.toUInt32 >>> ((8).toUInt32 &&& Int32.toUInt32 31)).toInt32)) (fun v_4 =>
  ltv (v_4 + ((v_4.toUInt32 >>> ((16).toUInt32 &&& Int32.toUInt32 31)).toInt32)) (fun v_5 =>
  some (v_5 &&& 63))))))

def pJ6_compare_7cf53 (x0 : Int32) (x1 : Int32) : Option (Int32) :=
  if x1 ≤ x0 then
    if x0 = x1 then
      some 0
    else
      some 1
  else
    some (-1)

def pX6_has (C : St) (x0 : Int32) (x1 : Int32) : Option (Int32) :=
  if ((x0 >>> (x1 &&& 31)) &&& 1) = 0 then
    some 0
  else
    some 1

def pX5_allFeatures (C : St) : Option (Int32) :=
  some ((1 <<< ((C.1 3) &&& 31)) - 1)

def pX5_allowsAt_21 (C : St) (x1 : Int32) (x2 : Int32) : Option (Int32) :=
  gd (ix x1 12) (
  ltv (C.2 1 x1.toNatClampNeg) (fun v_2 =>
  bd (pJ6_bitCount_0f7a4 (v_2 &&& x2)) (fun r_3 =>
  if ((v_2 &&& (C.1 2)) &&& (x2 ^^^ (-1))) = 0 then
    gd (ix x1 12) (
    if r_3 < (C.2 2 x1.toNatClampNeg) then
      some 0
    else
      gd (ix x1 12) (
      if (C.2 3 x1.toNatClampNeg) < r_3 then
        some 0
      else
        some 1))
  else
    some 0

def pX5_allowsAt (C : St) (x1 : Int32) (x2 : Int32) : Option (Int32) :=
  gd (ix x1 12) (
  ltv (C.2 0 x1.toNatClampNeg) (fun v_1 =>
  if v_1 < 0 then
    pX5_allowsAt_21 C x1 x2)))
  else
    bd (pX6_has C x2 v_1) (fun r_4 =>
    if r_4 = 0 then
      some 0
    else
      pX5_allowsAt_21 C x1 x2)))

def pX5_allows_39 (k12 : St → Int32 → Int32 → Option (Int32)) (C : St) (x1 : Int32) (x2 : Int32) : Option (Int32) :=
  ltv (x2 + 1) (fun v_3 =>
  k12 C x1 v_3

def pX5_allows_12_b (k12 : St → Int32 → Int32 → Option (Int32)) (C : St) (x1 : Int32) (x2 : Int32) : Option (Int32) :=
  if (C.1 3) ≤ x2 then
    some 1
  else
    bd (pX6_has C x1 x2) (fun r_2 =>
    if r_2 = 0 then
      pX5_allows_39 k12 C x1 x2)
    else
      bd (pX5_allowsAt C x2 x1) (fun r_4 =>
      if r_4 = 0 then
        some 0
      else
        pX5_allows_39 k12 C x1 x2))

def pX5_allows_12 : Nat → St → Int32 → Int32 → Option (Int32)
  | 0 => fun _ _ _ => none
  | n + 1 => fun C x1 x2 => pX5_allows_12_b (pX5_allows_12 n) C x1 x2

def pX5_allows (C : St) (x1 : Int32) : Option (Int32) :=
  bd (pX6_has C x1 0) (fun r_1 =>
  if r_1 = 0 then
    some 0
  else
    pX5_allows_12 FU C x1 0)

def pX5_mayBeIn (C : St) (x1 : Int32) (x2 : Int32) : Option (Int32) :=
  gd (ix x1 12) (
  bd (pJ6_bitCount_0f7a4 (C.2 1 x1.toNatClampNeg)) (fun r_1 =>
  gd (ix x1 12) (
  if (C.2 2 x1.toNatClampNeg) ≤ r_1 then
    gd (ix x1 12) (
    ltv (C.2 0 x1.toNatClampNeg) (fun v_2 =>
    if v_2 < 0 then
      some 1
    else
      bd (pX6_has C x2 v_2) (fun r_3 =>
      if r_3 = 0 then
        some 0
      else
        gd (ix v_2 12) (
        bd (pJ6_bitCount_0f7a4 ((C.2 1 v_2.toNatClampNeg) &&& x2)) (fun r_4 =>
        gd (ix v_2 12) (
        if (C.2 3 v_2.toNatClampNeg) ≤ r_4 then
          some 0
        else
          some 1))))))
  else
    some 0)))

def pX5_mayBeOut (C : St) (x1 : Int32) (x2 : Int32) : Option (Int32) :=
  gd (ix x1 12) (
  ltv (C.2 0 x1.toNatClampNeg) (fun v_1 =>
  if 0 ≤ v_1 then
    bd (pX6_has C x2 v_1) (fun r_2 =>
    if r_2 = 0 then
      some 1
    else
      gd (ix v_1 12) (
      bd (pJ6_bitCount_0f7a4 ((C.2 1 v_1.toNatClampNeg) &&& x2)) (fun r_3 =>
      gd (ix v_1 12) (
      bd (pJ6_bitCount_0f7a4 ((C.2 1 v_1.toNatClampNeg) >>> ((x1 + 1) &&& 31))) (fun r_4 =>
      bd (pX6_has C (C.1 2) x1) (fun r_5 =>
      if r_5 = 0 then
        gd (ix v_1 12) (
        if (r_3 + r_4) < (C.2 2 v_1.toNatClampNeg) then
          some 0
        else
          some 1)
      else
        some 0))))))
  else
    some 0))

def pX3_holdsFor (C : St) (x1 : Int32) (x2 : Int32) : Option (Int32) :=
  gd (ix x1 20) (
  gd (ix x1 20) (
  if (((C.2 4 x1.toNatClampNeg) &&& x2) ||| ((C.2 5 x1.toNatClampNeg) &&& (x2 ^^^ (-1)))) = 0 then
    some 0
  else
    some 1))

def pX3_holdFor_32 (k2 : St → Int32 → Int32 → Option (Int32)) (C : St) (x1 : Int32) (x2 : Int32) : Option (Int32) :=
  ltv (x2 + 1) (fun v_2 =>
  k2 C x1 v_2

def pX3_holdFor_2_b (k2 : St → Int32 → Int32 → Option (Int32)) (C : St) (x1 : Int32) (x2 : Int32) : Option (Int32) :=
  if (C.1 5) ≤ x2 then
    some 1
  else
    bd (pX6_has C (C.1 4) x2) (fun r_1 =>
    if r_1 = 0 then
      pX3_holdFor_32 k2 C x1 x2)
    else
      bd (pX3_holdsFor C x2 x1) (fun r_3 =>
      if r_3 = 0 then
        some 0
      else
        pX3_holdFor_32 k2 C x1 x2))

def pX3_holdFor_2 : Nat → St → Int32 → Int32 → Option (Int32)
  | 0 => fun _ _ _ => none
  | n + 1 => fun C x1 x2 => pX3_holdFor_2_b (pX3_holdFor_2 n) C x1 x2

def pX3_holdFor (C : St) (x1 : Int32) : Option (Int32) :=
  pX3_holdFor_2 FU C x1 0

def pX3_holdAt_42 (k2 : St → Int32 → Int32 → Int32 → Option (Int32)) (C : St) (x1 : Int32) (x2 : Int32) (x3 : Int32) : Option (Int32) :=
  ltv (x3 + 1) (fun v_1 =>
  k2 C x1 x2 v_1

def pX3_holdAt_2_b (k2 : St → Int32 → Int32 → Int32 → Option (Int32)) (C : St) (x1 : Int32) (x2 : Int32) (x3 : Int32) : Option (Int32) :=
  if (C.1 5) ≤ x3 then
    some 1
  else
    gd (ix x3 20) (
    if (C.2 6 x3.toNatClampNeg) = x1 then
      bd (pX6_has C (C.1 4) x3) (fun r_2 =>
      if r_2 = 0 then
        pX3_holdAt_42 k2 C x1 x2 x3
      else
        bd (pX3_holdsFor C x3 x2) (fun r_3 =>
        if r_3 = 0 then
          some 0
        else
          pX3_holdAt_42 k2 C x1 x2 x3))
    else
      pX3_holdAt_42 k2 C x1 x2 x3))

def pX3_holdAt_2 : Nat → St → Int32 → Int32 → Int32 → Option (Int32)
  | 0 => fun _ _ _ _ => none
  | n + 1 => fun C x1 x2 x3 => pX3_holdAt_2_b (pX3_holdAt_2 n) C x1 x2 x3

def pX3_holdAt (C : St) (x1 : Int32) (x2 : Int32) : Option (Int32) :=
  pX3_holdAt_2 FU C x1 x2 0

def pX3_lastKeptBy_64 (k8 : St → Int32 → Int32 → Int32 → Int32 → Option (Int32)) (C : St) (x2 : Int32) (x3 : Int32) (x4 : Int32) (x5 : Int32) : Option (Int32) :=
  ltv (x5 + 1) (fun v_3 =>
  k8 C x2 x3 x4 v_3

def pX3_lastKeptBy_8_b (k8 : St → Int32 → Int32 → Int32 → Int32 → Option (Int32)) (C : St) (x2 : Int32) (x3 : Int32) (x4 : Int32) (x5 : Int32) : Option (Int32) :=
  if (C.1 5) ≤ x5 then
    some (-1)
  else
    gd (ix x5 20) (
    gd (ix x5 20) (
    ltv (((C.2 4 x5.toNatClampNeg) &&& (x3 ^^^ (-1))) ||| ((C.2 5 x5.toNatClampNeg) &&& (x2 ^^^ (-1)))) (fun v_2 =>
    if v_2 = x4 then
      bd (pX6_has C (C.1 4) x5) (fun r_4 =>
      if r_4 = 0 then
        pX3_lastKeptBy_64 k8 C x2 x3 x4 x5
      else
        some x5)
    else
      pX3_lastKeptBy_64 k8 C x2 x3 x4 x5))))

def pX3_lastKeptBy_8 : Nat → St → Int32 → Int32 → Int32 → Int32 → Option (Int32)
  | 0 => fun _ _ _ _ _ => none
  | n + 1 => fun C x2 x3 x4 x5 => pX3_lastKeptBy_8_b (pX3_lastKeptBy_8 n) C x2 x3 x4 x5

def pX3_lastKeptBy (C : St) (x1 : Int32) (x2 : Int32) (x3 : Int32) : Option (Int32) :=
  ltv (1 <<< (x1 &&& 31)) (fun v_1 =>
  pX3_lastKeptBy_8 FU C x2 x3 v_1 0)

def pX4_canTake (C : St) (x2 : Int32) (x3 : Int32) (x4 : Int32) : Option (Int32) :=
  bd (pX6_has C x4 x2) (fun r_1 =>
  if r_1 = 0 then
    bd (pX5_mayBeIn C x2 x3) (fun r_2 =>
    if r_2 = 0 then
      some 0
    else
      bd (pX3_holdAt C x2 (x3 ||| (1 <<< (x2 &&& 31)))) (fun r_3 =>
      if r_3 = 0 then
        some 0
      else
        some 1))
  else
    some 0)

def pX4_canLeave (C : St) (x2 : Int32) (x3 : Int32) (x4 : Int32) : Option (Int32) :=
  bd (pX6_has C x4 x2) (fun r_1 =>
  if r_1 = 0 then
    bd (pX5_mayBeOut C x2 x3) (fun r_2 =>
    if r_2 = 0 then
      some 0
    else
      bd (pX3_holdAt C x2 x3) (fun r_3 =>
      if r_3 = 0 then
        some 0
      else
        some 1))
  else
    some 0)

def pX4_reaches_45 (self : St → Int32 → Int32 → Int32 → Int32 → Option (Int32)) (C : St) (x2 : Int32) (x3 : Int32) (x4 : Int32) (x5 : Int32) (x6 : Int32) : Option (Int32) :=
  bd (pX4_canTake C x2 x3 x5) (fun r_3 =>
  if r_3 = 0 then
    some 0
  else
    bd (self C (x2 + 1) x6 x4 x5) (fun r_4 =>
    if r_4 = 0 then
      some 0
    else
      some 1)

def pX4_reaches_e (self : St → Int32 → Int32 → Int32 → Int32 → Option (Int32)) (C : St) (x2 : Int32) (x3 : Int32) (x4 : Int32) (x5 : Int32) : Option (Int32) :=
  if x2 < (C.1 3) then
    ltv (x3 ||| (1 <<< (x2 &&& 31))) (fun v_1 =>
    bd (pX4_canLeave C x2 x3 x4) (fun r_2 =>
    if r_2 = 0 then
      pX4_reaches_45 self C x2 x3 x4 x5 v_1)
    else
      bd (self C (x2 + 1) x3 x4 x5) (fun r_5 =>
      if r_5 = 0 then
        pX4_reaches_45 self C x2 x3 x4 x5 v_1
      else
        some 1)))
  else
    some 1

def pX4_reaches : Nat → St → Int32 → Int32 → Int32 → Int32 → Option (Int32)
  | 0 => fun _ _ _ _ _ => none
  | n + 1 => fun C x2 x3 x4 x5 => pX4_reaches_e (pX4_reaches n) C x2 x3 x4 x5

def pX4_countFrom_43 (self : St → Int32 → Int32 → Int32 → Int32 → Option (Int64)) (C : St) (x2 : Int32) (x3 : Int32) (x4 : Int32) (x5 : Int32) (x6 : Int64) : Option (Int64) :=
  bd (pX4_canTake C x2 x3 x5) (fun r_2 =>
  if r_2 = 0 then
    some x6
  else
    bd (self C (x2 + 1) (x3 ||| (1 <<< (x2 &&& 31))) x4 x5) (fun r_3 =>
    ltv (x6 + r_3) (fun v_4 =>
    some v_4))

def pX4_countFrom_e (self : St → Int32 → Int32 → Int32 → Int32 → Option (Int64)) (C : St) (x2 : Int32) (x3 : Int32) (x4 : Int32) (x5 : Int32) : Option (Int64) :=
  if x2 < (C.1 3) then
    bd (pX4_canLeave C x2 x3 x4) (fun r_1 =>
    if r_1 = 0 then
      pX4_countFrom_43 self C x2 x3 x4 x5 0)
    else
      bd (self C (x2 + 1) x3 x4 x5) (fun r_5 =>
      ltv (0 + r_5) (fun v_6 =>
      pX4_countFrom_43 self C x2 x3 x4 x5 v_6)))
  else
    some 1

def pX4_countFrom : Nat → St → Int32 → Int32 → Int32 → Int32 → Option (Int64)
  | 0 => fun _ _ _ _ _ => none
  | n + 1 => fun C x2 x3 x4 x5 => pX4_countFrom_e (pX4_countFrom n) C x2 x3 x4 x5

def pX2_sumOf_27 (k4 : St → Int32 → Int32 → Int32 → Option (Int32)) (C : St) (x1 : Int32) (x2 : Int32) (x3 : Int32) : Option (Int32) :=
  ltv (x3 + 1) (fun v_2 =>
  k4 C x1 x2 v_2

def pX2_sumOf_4_b (k4 : St → Int32 → Int32 → Int32 → Option (Int32)) (C : St) (x1 : Int32) (x2 : Int32) (x3 : Int32) : Option (Int32) :=
  if 12 ≤ x3 then
    some x2
  else
    bd (pX6_has C x1 x3) (fun r_1 =>
    if r_1 = 0 then
      pX2_sumOf_27 k4 C x1 x2 x3)
    else
      gd (ix x3 12) (
      ltv (x2 + (C.2 7 x3.toNatClampNeg)) (fun v_3 =>
      pX2_sumOf_27 k4 C x1 v_3 x3)))

def pX2_sumOf_4 : Nat → St → Int32 → Int32 → Int32 → Option (Int32)
  | 0 => fun _ _ _ _ => none
  | n + 1 => fun C x1 x2 x3 => pX2_sumOf_4_b (pX2_sumOf_4 n) C x1 x2 x3

def pX2_sumOf (C : St) (x1 : Int32) : Option (Int32) :=
  pX2_sumOf_4 FU C x1 0 0

def pX2_answerOf (C : St) (x1 : Int32) (x2 : Int32) (x3 : Int32) : Option (Int32) :=
  gd (ix x1 6) (
  ltv (C.2 9 x1.toNatClampNeg) (fun v_1 =>
  gd (ix x1 6) (
  ltv (C.2 10 x1.toNatClampNeg) (fun v_2 =>
  gd (ix x1 6) (
  if (C.2 8 x1.toNatClampNeg) = 0 then
    if (v_1 &&& (x2 ^^^ (-1))) = 0 then
      some (x3 - v_2)
    else
      some x3
  else
    if (C.2 8 x1.toNatClampNeg) = 1 then
      some (x3 - ((x3 * v_2) / 100))
    else
      bd (pJ6_bitCount_0f7a4 x2) (fun r_3 =>
      some (x3 + (v_2 * (if 0 < (r_3 - v_1) then (r_3 - v_1) else 0)))))))))

def pX2_ofSet_8_b (k8 : St → Int32 → Int32 → Int32 → Option (Int32)) (C : St) (x1 : Int32) (x2 : Int32) (x3 : Int32) : Option (Int32) :=
  if (C.1 6) ≤ x3 then
    some x2
  else
    bd (pX2_answerOf C x3 x1 x2) (fun r_2 =>
    ltv (x3 + 1) (fun v_3 =>
    k8 C x1 r_2 v_3))

def pX2_ofSet_8 : Nat → St → Int32 → Int32 → Int32 → Option (Int32)
  | 0 => fun _ _ _ _ => none
  | n + 1 => fun C x1 x2 x3 => pX2_ofSet_8_b (pX2_ofSet_8 n) C x1 x2 x3

def pX2_ofSet (C : St) (x1 : Int32) : Option (Int32) :=
  bd (pX2_sumOf C x1) (fun r_1 =>
  pX2_ofSet_8 FU C x1 r_1 0)

def pX2_cheaperOf_8 (C : St) (x1 : Int32) (x2 : Int32) : Option (Int32) :=
  some (if x1 < x2 then x2 else x1)

def pX2_cheaperOf_54 (C : St) (x1 : Int32) (x2 : Int32) (x3 : Int32) : Option (Int32) :=
  if 0 < x3 then
    some x2
  else
    some x1

def pX2_cheaperOf_44 (C : St) (x1 : Int32) (x2 : Int32) (x3 : Int32) : Option (Int32) :=
  if x3 = 0 then
    bd (pJ6_compare_7cf53 x1 x2) (fun r_4 =>
    pX2_cheaperOf_54 C x1 x2 r_4)
  else
    pX2_cheaperOf_54 C x1 x2 x3

def pX2_cheaperOf (C : St) (x1 : Int32) (x2 : Int32) : Option (Int32) :=
  if x1 < 0 then
    pX2_cheaperOf_8 C x1 x2
  else
    if 0 ≤ x2 then
      bd (pX2_ofSet C x1) (fun r_1 =>
      bd (pX2_ofSet C x2) (fun r_2 =>
      bd (pJ6_compare_7cf53 r_1 r_2) (fun r_3 =>
      if r_3 = 0 then
        bd (pJ6_bitCount_0f7a4 x1) (fun r_5 =>
        bd (pJ6_bitCount_0f7a4 x2) (fun r_6 =>
        bd (pJ6_compare_7cf53 r_5 r_6) (fun r_7 =>
        pX2_cheaperOf_44 C x1 x2 r_7)))
      else
        pX2_cheaperOf_44 C x1 x2 r_3)))
    else
      pX2_cheaperOf_8 C x1 x2

def pX4_cheapestFrom_44 (self : St → Int32 → Int32 → Int32 → Int32 → Option (Int32)) (C : St) (x3 : Int32) (x4 : Int32) (x5 : Int32) (x6 : Int32) (x7 : Int32) : Option (Int32) :=
  bd (pX4_canTake C x3 x4 x6) (fun r_2 =>
  if r_2 = 0 then
    some x7
  else
    ltv (x4 ||| (1 <<< (x3 &&& 31))) (fun v_3 =>
    bd (self C (x3 + 1) v_3 x5 x6) (fun r_4 =>
    bd (pX2_cheaperOf C x7 r_4) (fun r_5 =>
    some r_5)))

def pX4_cheapestFrom_e (self : St → Int32 → Int32 → Int32 → Int32 → Option (Int32)) (C : St) (x3 : Int32) (x4 : Int32) (x5 : Int32) (x6 : Int32) : Option (Int32) :=
  if x3 < (C.1 3) then
    bd (pX4_canLeave C x3 x4 x5) (fun r_1 =>
    if r_1 = 0 then
      pX4_cheapestFrom_44 self C x3 x4 x5 x6 (-1))
    else
      bd (self C (x3 + 1) x4 x5 x6) (fun r_6 =>
      pX4_cheapestFrom_44 self C x3 x4 x5 x6 r_6))
  else
    some x4

def pX4_cheapestFrom : Nat → St → Int32 → Int32 → Int32 → Int32 → Option (Int32)
  | 0 => fun _ _ _ _ _ => none
  | n + 1 => fun C x3 x4 x5 x6 => pX4_cheapestFrom_e (pX4_cheapestFrom n) C x3 x4 x5 x6

def pX0_knows (C : St) (x1 : Int32) : Option (Int32) :=
  bd (pX6_has C ((C.1 7) ||| (C.1 8)) x1) (fun r_1 =>
  gd (okZ r_1) (
  some r_1))

def pX0_letterByKin_78 (C : St) (x3 : Int32) : Option (Int32) :=
  if ((x3 &&& (C.1 2)) &&& (C.1 8)) = 0 then
    some 32
  else
    some 107

def pX0_letterByKin_47 (C : St) (x2 : Int32) (x3 : Int32) (x4 : Int32) : Option (Int32) :=
  if x4 < 0 then
    pX0_letterByKin_78 C x3
  else
    bd (pX6_has C (C.1 7) x4) (fun r_3 =>
    if r_3 = 0 then
      pX0_letterByKin_78 C x3
    else
      bd (pX6_has C (C.1 2) x2) (fun r_4 =>
      if r_4 = 0 then
        pX0_letterByKin_78 C x3
      else
        some 109))

def pX0_letterByKin (C : St) (x2 : Int32) : Option (Int32) :=
  gd (ix x2 12) (
  ltv (C.2 1 x2.toNatClampNeg) (fun v_1 =>
  gd (ix x2 12) (
  ltv (C.2 0 x2.toNatClampNeg) (fun v_2 =>
  if (v_1 &&& (C.1 7)) = 0 then
    if v_2 < 0 then
      pX0_letterByKin_47 C x2 v_1 v_2
    else
      bd (pX6_has C (C.1 8) v_2) (fun r_5 =>
      if r_5 = 0 then
        pX0_letterByKin_47 C x2 v_1 v_2
      else
        some 112)
  else
    some 99))))

def pX0_letterByGroup_76 (C : St) (x2 : Int32) : Option (Int32) :=
  gd (ix x2 12) (
  bd (pJ6_bitCount_0f7a4 ((C.2 1 x2.toNatClampNeg) &&& ((C.1 8) ^^^ (-1)))) (fun r_2 =>
  gd (ix x2 12) (
  if (C.2 2 x2.toNatClampNeg) ≤ r_2 then
    some 32
  else
    some 103

def pX0_letterByGroup (C : St) (x2 : Int32) : Option (Int32) :=
  gd (ix x2 12) (
  ltv (C.2 0 x2.toNatClampNeg) (fun v_1 =>
  if v_1 < 0 then
    pX0_letterByGroup_76 C x2)))
  else
    bd (pX6_has C (C.1 7) v_1) (fun r_3 =>
    if r_3 = 0 then
      pX0_letterByGroup_76 C x2
    else
      gd (ix v_1 12) (
      ltv (C.2 1 v_1.toNatClampNeg) (fun v_4 =>
      bd (pJ6_bitCount_0f7a4 (v_4 &&& (C.1 7))) (fun r_5 =>
      gd (ix v_1 12) (
      if r_5 = (C.2 3 v_1.toNatClampNeg) then
        some 102
      else
        bd (pJ6_bitCount_0f7a4 (v_4 &&& ((C.1 8) ^^^ (-1)))) (fun r_6 =>
        gd (ix v_1 12) (
        if r_6 = (C.2 2 v_1.toNatClampNeg) then
          some 110
        else
          pX0_letterByGroup_76 C x2)))))))))

def pX6_stateLetter (C : St) (x1 : Int32) (x2 : Int32) (x3 : Int32) : Option (Int32) :=
  bd (pX6_has C ((C.1 0) ||| (C.1 1)) x1) (fun r_1 =>
  if r_1 = 0 then
    if x2 = 0 then
      some 120
    else
      if x3 = 0 then
        some 97
      else
        some 111
  else
    bd (pX6_has C (C.1 0) x1) (fun r_2 =>
    if r_2 = 0 then
      some 114
    else
      some 99))

def pX6_isCompletion (C : St) (x1 : Int32) : Option (Int32) :=
  if ((C.1 0) &&& (x1 ^^^ (-1))) = 0 then
    if ((C.1 1) &&& x1) = 0 then
      bd (pX5_allows C x1) (fun r_1 =>
      if r_1 = 0 then
        some 0
      else
        bd (pX3_holdFor C x1) (fun r_2 =>
        if r_2 = 0 then
          some 0
        else
          some 1))
    else
      some 0
  else
    some 0

def pX6_hasCompletion (C : St) : Option (Int32) :=
  bd (pX4_reaches RU C 0 0 (C.1 0) (C.1 1)) (fun r_1 =>
  gd (okZ r_1) (
  some r_1))

def pX6_featuresInAll_33 (k10 : St → Int32 → Int32 → Option (Int32)) (C : St) (x1 : Int32) (x2 : Int32) : Option (Int32) :=
  ltv (x2 + 1) (fun v_4 =>
  k10 C x1 v_4

def pX6_featuresInAll_10_b (k10 : St → Int32 → Int32 → Option (Int32)) (C : St) (x1 : Int32) (x2 : Int32) : Option (Int32) :=
  bd (pX5_allFeatures C) (fun r_2 =>
  if r_2 < x2 then
    some x1
  else
    bd (pX6_isCompletion C x2) (fun r_3 =>
    if r_3 = 0 then
      pX6_featuresInAll_33 k10 C x1 x2)
    else
      ltv (x1 &&& x2) (fun v_5 =>
      pX6_featuresInAll_33 k10 C v_5 x2))

def pX6_featuresInAll_10 : Nat → St → Int32 → Int32 → Option (Int32)
  | 0 => fun _ _ _ => none
  | n + 1 => fun C x1 x2 => pX6_featuresInAll_10_b (pX6_featuresInAll_10 n) C x1 x2

def pX6_featuresInAll (C : St) : Option (Int32) :=
  bd (pX5_allFeatures C) (fun r_1 =>
  pX6_featuresInAll_10 FU C r_1 0))

def pX6_featuresInSome_27 (k4 : St → Int32 → Int32 → Option (Int32)) (C : St) (x1 : Int32) (x2 : Int32) : Option (Int32) :=
  ltv (x2 + 1) (fun v_3 =>
  k4 C x1 v_3

def pX6_featuresInSome_4_b (k4 : St → Int32 → Int32 → Option (Int32)) (C : St) (x1 : Int32) (x2 : Int32) : Option (Int32) :=
  bd (pX5_allFeatures C) (fun r_1 =>
  if r_1 < x2 then
    some x1
  else
    bd (pX6_isCompletion C x2) (fun r_2 =>
    if r_2 = 0 then
      pX6_featuresInSome_27 k4 C x1 x2)
    else
      ltv (x1 ||| x2) (fun v_4 =>
      pX6_featuresInSome_27 k4 C v_4 x2))

def pX6_featuresInSome_4 : Nat → St → Int32 → Int32 → Option (Int32)
  | 0 => fun _ _ _ => none
  | n + 1 => fun C x1 x2 => pX6_featuresInSome_4_b (pX6_featuresInSome_4 n) C x1 x2

def pX6_featuresInSome (C : St) : Option (Int32) :=
  pX6_featuresInSome_4 FU C 0 0)

def pX6_smallerOf (C : St) (x0 : Int32) (x1 : Int32) : Option (Int32) :=
  if x0 = (-1) then
    some x1
  else
    bd (pJ6_bitCount_0f7a4 x1) (fun r_1 =>
    bd (pJ6_bitCount_0f7a4 x0) (fun r_2 =>
    ltv (r_1 - r_2) (fun v_3 =>
    if v_3 < 0 then
      some x1
    else
      if v_3 = 0 then
        if x0 ≤ x1 then
          some x0
        else
          some x1
      else
        some x0)))

def pX6_completions (C : St) : Option (Int64) :=
  bd (pX4_countFrom RU C 0 0 (C.1 0) (C.1 1)) (fun r_1 =>
  some r_1)

def pX6_completionsByAll_27 (k4 : St → Int64 → Int32 → Option (Int64)) (C : St) (x1 : Int64) (x3 : Int32) : Option (Int64) :=
  ltv (x3 + 1) (fun v_3 =>
  k4 C x1 v_3

def pX6_completionsByAll_4_b (k4 : St → Int64 → Int32 → Option (Int64)) (C : St) (x1 : Int64) (x3 : Int32) : Option (Int64) :=
  bd (pX5_allFeatures C) (fun r_1 =>
  if r_1 < x3 then
    some x1
  else
    bd (pX6_isCompletion C x3) (fun r_2 =>
    if r_2 = 0 then
      pX6_completionsByAll_27 k4 C x1 x3)
    else
      ltv (x1 + 1) (fun v_4 =>
      pX6_completionsByAll_27 k4 C v_4 x3))

def pX6_completionsByAll_4 : Nat → St → Int64 → Int32 → Option (Int64)
  | 0 => fun _ _ _ => none
  | n + 1 => fun C x1 x3 => pX6_completionsByAll_4_b (pX6_completionsByAll_4 n) C x1 x3

def pX6_completionsByAll (C : St) : Option (Int64) :=
  pX6_completionsByAll_4 FU C 0 0)

def pX6_cheapest (C : St) : Option (Int32) :=
  bd (pX4_cheapestFrom RU C 0 0 (C.1 0) (C.1 1)) (fun r_1 =>
  some r_1)

def pX6_cheapestByAll_33 (k4 : St → Int32 → Int32 → Option (Int32)) (C : St) (x1 : Int32) (x2 : Int32) : Option (Int32) :=
  ltv (x2 + 1) (fun v_3 =>
  k4 C x1 v_3

def pX6_cheapestByAll_4_b (k4 : St → Int32 → Int32 → Option (Int32)) (C : St) (x1 : Int32) (x2 : Int32) : Option (Int32) :=
  bd (pX5_allFeatures C) (fun r_1 =>
  if r_1 < x2 then
    some x1
  else
    bd (pX6_isCompletion C x2) (fun r_2 =>
    if r_2 = 0 then
      pX6_cheapestByAll_33 k4 C x1 x2)
    else
      bd (pX2_cheaperOf C x1 x2) (fun r_4 =>
      pX6_cheapestByAll_33 k4 C r_4 x2))

def pX6_cheapestByAll_4 : Nat → St → Int32 → Int32 → Option (Int32)
  | 0 => fun _ _ _ => none
  | n + 1 => fun C x1 x2 => pX6_cheapestByAll_4_b (pX6_cheapestByAll_4 n) C x1 x2

def pX6_cheapestByAll (C : St) : Option (Int32) :=
  pX6_cheapestByAll_4 FU C (-1) 0)

def pX7_isIn (C : St) (x0 : Int32) (x1 : Int32) (x2 : Int32) : Option (Int32) :=
  if x0 < x1 then
    some 0
  else
    if x2 < x0 then
      some 0
    else
      some 1

def pX7_isNone (C : St) (x1 : Int32) : Option (Int32) :=
  bd (pX7_isIn C x1 0 ((C.1 0) - 1)) (fun r_1 =>
  if r_1 = 0 then
    some 1
  else
    some 0)

def pX7_has (C : St) (x0 : Int32) (x1 : Int32) : Option (Int32) :=
  if ((x0 >>> (x1 &&& 31)) &&& 1) = 1 then
    some 1
  else
    some 0

def pX7_keeps (C : St) (x1 : Int32) (x2 : Int32) : Option (Int32) :=
  gd (ix x1 20) (
  if (C.2 6 x1.toNatClampNeg) = 114 then
    gd (ix x1 20) (
    bd (pX7_has C x2 (C.2 9 x1.toNatClampNeg)) (fun r_6 =>
    if r_6 = 0 then
      some 1
    else
      gd (ix x1 20) (
      bd (pX7_has C x2 (C.2 10 x1.toNatClampNeg)) (fun r_7 =>
      if r_7 = 0 then
        some 0
      else
        some 1))))
  else
    gd (ix x1 20) (
    if (C.2 6 x1.toNatClampNeg) = 101 then
      gd (ix x1 20) (
      bd (pX7_has C x2 (C.2 9 x1.toNatClampNeg)) (fun r_4 =>
      if r_4 = 0 then
        some 1
      else
        gd (ix x1 20) (
        bd (pX7_has C x2 (C.2 10 x1.toNatClampNeg)) (fun r_5 =>
        if r_5 = 0 then
          some 1
        else
          some 0))))
    else
      gd (ix x1 20) (
      bd (pX7_has C x2 (C.2 9 x1.toNatClampNeg)) (fun r_1 =>
      if r_1 = 0 then
        gd (ix x1 20) (
        bd (pX7_has C x2 (C.2 10 x1.toNatClampNeg)) (fun r_2 =>
        if r_2 = 0 then
          gd (ix x1 20) (
          bd (pX7_has C x2 (C.2 11 x1.toNatClampNeg)) (fun r_3 =>
          if r_3 = 0 then
            some 0
          else
            some 1))
        else
          some 1))
      else
        some 1))))

def pX7_isGood_229 (k194 : St → Int32 → Int32 → Int32 → Option (Int32)) (C : St) (x1 : Int32) (x3 : Int32) (t0 : Int32) : Option (Int32) :=
  ltv (x3 + 1) (fun v_2 =>
  k194 C x1 t0 v_2

def pX7_isGood_224 (k194 : St → Int32 → Int32 → Int32 → Option (Int32)) (C : St) (x1 : Int32) (x3 : Int32) : Option (Int32) :=
  pX7_isGood_229 k194 C x1 x3 1

def pX7_isGood_194_b (k194 : St → Int32 → Int32 → Int32 → Option (Int32)) (C : St) (x1 : Int32) (x2 : Int32) (x3 : Int32) : Option (Int32) :=
  if (C.1 1) ≤ x3 then
    gd (okZ x2) (
    some x2)
  else
    if x2 = 0 then
      gd (okZ x2) (
      some x2)
    else
      gd (ix x3 20) (
      if (C.2 5 x3.toNatClampNeg) = 0 then
        bd (pX7_keeps C x3 x1) (fun r_3 =>
        if r_3 = 0 then
          pX7_isGood_229 k194 C x1 x3 0
        else
          pX7_isGood_224 k194 C x1 x3)
      else
        pX7_isGood_224 k194 C x1 x3))

def pX7_isGood_194 : Nat → St → Int32 → Int32 → Int32 → Option (Int32)
  | 0 => fun _ _ _ _ => none
  | n + 1 => fun C x1 x2 x3 => pX7_isGood_194_b (pX7_isGood_194 n) C x1 x2 x3

def pX7_isGood_192 (C : St) (x1 : Int32) (x2 : Int32) : Option (Int32) :=
  pX7_isGood_194 FU C x1 x2 0

def pX7_isGood_184 (k8 : St → Int32 → Int32 → Int32 → Option (Int32)) (C : St) (x1 : Int32) (x3 : Int32) (t0 : Int32) (t1 : Int32) : Option (Int32) :=
  ltv (t0 &&& t1) (fun v_7 =>
  ltv (x3 + 1) (fun v_8 =>
  k8 C x1 v_7 v_8

def pX7_isGood_179 (k8 : St → Int32 → Int32 → Int32 → Option (Int32)) (C : St) (x1 : Int32) (x3 : Int32) (t0 : Int32) : Option (Int32) :=
  pX7_isGood_184 k8 C x1 x3 t0 1

def pX7_isGood_148 (k8 : St → Int32 → Int32 → Int32 → Option (Int32)) (C : St) (x1 : Int32) (x3 : Int32) (x4 : Int32) (t0 : Int32) (t1 : Int32) : Option (Int32) :=
  ltv (t0 &&& t1) (fun v_5 =>
  bd (pX7_has C x1 x3) (fun r_6 =>
  if r_6 = 0 then
    pX7_isGood_179 k8 C x1 x3 v_5))
  else
    gd (ix x3 12) (
    gd (ix x3 12) (
    bd (pX7_isIn C x4 (C.2 2 x3.toNatClampNeg) (C.2 3 x3.toNatClampNeg)) (fun r_9 =>
    if r_9 = 0 then
      pX7_isGood_184 k8 C x1 x3 v_5 0
    else
      pX7_isGood_179 k8 C x1 x3 v_5)))

def pX7_isGood_143 (k8 : St → Int32 → Int32 → Int32 → Option (Int32)) (C : St) (x1 : Int32) (x3 : Int32) (x4 : Int32) (t0 : Int32) : Option (Int32) :=
  pX7_isGood_148 k8 C x1 x3 x4 t0 1

def pX7_isGood_109 (k26 : St → Int32 → Int32 → Int32 → Int32 → Int32 → Option (Int32)) (C : St) (x1 : Int32) (x3 : Int32) (x4 : Int32) (x5 : Int32) (t0 : Int32) (t1 : Int32) : Option (Int32) :=
  ltv (t0 &&& t1) (fun v_12 =>
  ltv (x5 + 1) (fun v_13 =>
  k26 C x1 v_12 x3 x4 v_13

def pX7_isGood_104 (k26 : St → Int32 → Int32 → Int32 → Int32 → Int32 → Option (Int32)) (C : St) (x1 : Int32) (x3 : Int32) (x4 : Int32) (x5 : Int32) (t0 : Int32) : Option (Int32) :=
  pX7_isGood_109 k26 C x1 x3 x4 x5 t0 1

def pX7_isGood_62 (k26 : St → Int32 → Int32 → Int32 → Int32 → Int32 → Option (Int32)) (C : St) (x1 : Int32) (x2 : Int32) (x3 : Int32) (x5 : Int32) (t0 : Int32) (t1 : Int32) : Option (Int32) :=
  ltv (t0 + t1) (fun v_11 =>
  gd (ix x5 12) (
  if (C.2 0 x5.toNatClampNeg) = x3 then
    gd (ix x5 12) (
    if (C.2 4 x5.toNatClampNeg) = 0 then
      pX7_isGood_104 k26 C x1 x3 v_11 x5 x2
    else
      bd (pX7_has C x1 x3) (fun r_14 =>
      if r_14 = 0 then
        pX7_isGood_104 k26 C x1 x3 v_11 x5 x2
      else
        bd (pX7_has C x1 x5) (fun r_15 =>
        if r_15 = 0 then
          pX7_isGood_109 k26 C x1 x3 v_11 x5 x2 0
        else
          pX7_isGood_104 k26 C x1 x3 v_11 x5 x2)))
  else
    pX7_isGood_104 k26 C x1 x3 v_11 x5 x2))

def pX7_isGood_61 (k26 : St → Int32 → Int32 → Int32 → Int32 → Int32 → Option (Int32)) (C : St) (x1 : Int32) (x2 : Int32) (x3 : Int32) (x5 : Int32) (t0 : Int32) : Option (Int32) :=
  pX7_isGood_62 k26 C x1 x2 x3 x5 t0 0

def pX7_isGood_26_b (k8 : St → Int32 → Int32 → Int32 → Option (Int32)) (k26 : St → Int32 → Int32 → Int32 → Int32 → Int32 → Option (Int32)) (C : St) (x1 : Int32) (x2 : Int32) (x3 : Int32) (x4 : Int32) (x5 : Int32) : Option (Int32) :=
  if (C.1 0) ≤ x5 then
    bd (pX7_has C x1 x3) (fun r_4 =>
    if r_4 = 0 then
      pX7_isGood_143 k8 C x1 x3 x4 x2))
    else
      if x3 = 0 then
        pX7_isGood_143 k8 C x1 x3 x4 x2
      else
        gd (ix x3 12) (
        bd (pX7_has C x1 (C.2 0 x3.toNatClampNeg)) (fun r_10 =>
        if r_10 = 0 then
          pX7_isGood_148 k8 C x1 x3 x4 x2 0
        else
          pX7_isGood_143 k8 C x1 x3 x4 x2)))
  else
    gd (ix x5 12) (
    if (C.2 0 x5.toNatClampNeg) = x3 then
      bd (pX7_has C x1 x5) (fun r_16 =>
      if r_16 = 0 then
        pX7_isGood_61 k26 C x1 x2 x3 x5 x4
      else
        pX7_isGood_62 k26 C x1 x2 x3 x5 x4 1)
    else
      pX7_isGood_61 k26 C x1 x2 x3 x5 x4)))

def pX7_isGood_26 (k8 : St → Int32 → Int32 → Int32 → Option (Int32)) : Nat → St → Int32 → Int32 → Int32 → Int32 → Int32 → Option (Int32)
  | 0 => fun _ _ _ _ _ _ => none
  | n + 1 => fun C x1 x2 x3 x4 x5 => pX7_isGood_26_b k8 (pX7_isGood_26 k8 n) C x1 x2 x3 x4 x5

def pX7_isGood_8_b (k8 : St → Int32 → Int32 → Int32 → Option (Int32)) (C : St) (x1 : Int32) (x2 : Int32) (x3 : Int32) : Option (Int32) :=
  if (C.1 0) ≤ x3 then
    pX7_isGood_192 C x1 x2
  else
    if x2 = 0 then
      pX7_isGood_192 C x1 x2
    else
      pX7_isGood_26 k8 FU C x1 x2 x3 0 1

def pX7_isGood_8 : Nat → St → Int32 → Int32 → Int32 → Option (Int32)
  | 0 => fun _ _ _ _ => none
  | n + 1 => fun C x1 x2 x3 => pX7_isGood_8_b (pX7_isGood_8 n) C x1 x2 x3

def pX7_isGood (C : St) (x1 : Int32) : Option (Int32) :=
  bd (pX7_has C x1 0) (fun r_1 =>
  pX7_isGood_8 FU C x1 r_1 0)

def pX7_completes (C : St) (x1 : Int32) : Option (Int32) :=
  if (x1 &&& (C.1 3)) = (C.1 3) then
    if (x1 &&& (C.1 4)) = 0 then
      bd (pX7_isGood C x1) (fun r_1 =>
      if r_1 = 0 then
        some 0
      else
        some 1)
    else
      some 0
  else
    some 0

def pX7_isNoneLeft_2_b (k2 : St → Int32 → Option (Int32)) (C : St) (x1 : Int32) : Option (Int32) :=
  if (1 <<< ((C.1 0) &&& 31)) ≤ x1 then
    some 1
  else
    bd (pX7_completes C x1) (fun r_1 =>
    if r_1 = 0 then
      ltv (x1 + 2) (fun v_2 =>
      k2 C v_2)
    else
      some 0)

def pX7_isNoneLeft_2 : Nat → St → Int32 → Option (Int32)
  | 0 => fun _ _ => none
  | n + 1 => fun C x1 => pX7_isNoneLeft_2_b (pX7_isNoneLeft_2 n) C x1

def pX7_isNoneLeft (C : St) : Option (Int32) :=
  pX7_isNoneLeft_2 FU C 1

def pX7_isDecided (C : St) (x1 : Int32) : Option (Int32) :=
  bd (pX7_has C ((C.1 3) ||| (C.1 4)) x1) (fun r_1 =>
  gd (okZ r_1) (
  some r_1))

def pX7_children_62 (k5 : St → Int32 → Int32 → Int32 → Int32 → Option (Int32)) (C : St) (x1 : Int32) (x2 : Int32) (x4 : Int32) (t0 : Int32) (t1 : Int32) : Option (Int32) :=
  ltv (t0 + t1) (fun v_1 =>
  ltv (x4 + 1) (fun v_2 =>
  k5 C x1 x2 v_1 v_2

def pX7_children_61 (k5 : St → Int32 → Int32 → Int32 → Int32 → Option (Int32)) (C : St) (x1 : Int32) (x2 : Int32) (x4 : Int32) (t0 : Int32) : Option (Int32) :=
  pX7_children_62 k5 C x1 x2 x4 t0 0

def pX7_children_57 (k5 : St → Int32 → Int32 → Int32 → Int32 → Option (Int32)) (C : St) (x1 : Int32) (x2 : Int32) (x4 : Int32) (t0 : Int32) : Option (Int32) :=
  pX7_children_62 k5 C x1 x2 x4 t0 1

def pX7_children_5_b (k5 : St → Int32 → Int32 → Int32 → Int32 → Option (Int32)) (C : St) (x1 : Int32) (x2 : Int32) (x3 : Int32) (x4 : Int32) : Option (Int32) :=
  if (C.1 0) ≤ x4 then
    some x3
  else
    gd (ix x4 12) (
    if (C.2 0 x4.toNatClampNeg) = x1 then
      if x2 = 0 then
        bd (pX7_has C (C.1 6) x4) (fun r_3 =>
        if r_3 = 0 then
          pX7_children_57 k5 C x1 x2 x4 x3
        else
          pX7_children_61 k5 C x1 x2 x4 x3)
      else
        bd (pX7_has C (C.1 5) x4) (fun r_4 =>
        if r_4 = 0 then
          pX7_children_61 k5 C x1 x2 x4 x3
        else
          pX7_children_57 k5 C x1 x2 x4 x3)
    else
      pX7_children_61 k5 C x1 x2 x4 x3)))

def pX7_children_5 : Nat → St → Int32 → Int32 → Int32 → Int32 → Option (Int32)
  | 0 => fun _ _ _ _ _ => none
  | n + 1 => fun C x1 x2 x3 x4 => pX7_children_5_b (pX7_children_5 n) C x1 x2 x3 x4

def pX7_children (C : St) (x1 : Int32) (x2 : Int32) : Option (Int32) :=
  pX7_children_5 FU C x1 x2 0 1

def pX7_hasOffChild_48 (k4 : St → Int32 → Int32 → Int32 → Option (Int32)) (C : St) (x1 : Int32) (x3 : Int32) (t0 : Int32) (t1 : Int32) : Option (Int32) :=
  ltv (t0 ||| t1) (fun v_1 =>
  ltv (x3 + 1) (fun v_2 =>
  k4 C x1 v_1 v_2

def pX7_hasOffChild_47 (k4 : St → Int32 → Int32 → Int32 → Option (Int32)) (C : St) (x1 : Int32) (x3 : Int32) (t0 : Int32) : Option (Int32) :=
  pX7_hasOffChild_48 k4 C x1 x3 t0 0

def pX7_hasOffChild_4_b (k4 : St → Int32 → Int32 → Int32 → Option (Int32)) (C : St) (x1 : Int32) (x2 : Int32) (x3 : Int32) : Option (Int32) :=
  if (C.1 0) ≤ x3 then
    gd (okZ x2) (
    some x2)
  else
    gd (ix x3 12) (
    if (C.2 0 x3.toNatClampNeg) = x1 then
      gd (ix x3 12) (
      if (C.2 4 x3.toNatClampNeg) = 0 then
        pX7_hasOffChild_47 k4 C x1 x3 x2
      else
        bd (pX7_has C (C.1 6) x3) (fun r_3 =>
        if r_3 = 0 then
          pX7_hasOffChild_47 k4 C x1 x3 x2
        else
          pX7_hasOffChild_48 k4 C x1 x3 x2 1))
    else
      pX7_hasOffChild_47 k4 C x1 x3 x2)))

def pX7_hasOffChild_4 : Nat → St → Int32 → Int32 → Int32 → Option (Int32)
  | 0 => fun _ _ _ _ => none
  | n + 1 => fun C x1 x2 x3 => pX7_hasOffChild_4_b (pX7_hasOffChild_4 n) C x1 x2 x3

def pX7_hasOffChild (C : St) (x1 : Int32) : Option (Int32) :=
  pX7_hasOffChild_4 FU C x1 0 1

def pX7_told_207 (C : St) (x3 : Int32) : Option (Int32) :=
  if ((C.1 6) &&& x3) = x3 then
    some 1
  else
    some 0

def pX7_told_110 (C : St) (x1 : Int32) (x2 : Int32) : Option (Int32) :=
  gd (ix x1 20) (
  if x2 = (C.2 9 x1.toNatClampNeg) then
    gd (ix x1 20) (
    bd (pX7_has C (C.1 5) (C.2 10 x1.toNatClampNeg)) (fun r_3 =>
    if r_3 = 0 then
      some 0
    else
      some (-1)))
  else
    some 0

def pX7_told_41 (C : St) (x1 : Int32) (x2 : Int32) : Option (Int32) :=
  gd (ix x1 20) (
  if x2 = (C.2 9 x1.toNatClampNeg) then
    gd (ix x1 20) (
    bd (pX7_has C (C.1 6) (C.2 10 x1.toNatClampNeg)) (fun r_5 =>
    if r_5 = 0 then
      some 0
    else
      some (-1)))
  else
    some 0

def pX7_told (C : St) (x1 : Int32) (x2 : Int32) : Option (Int32) :=
  gd (ix x1 20) (
  if (C.2 6 x1.toNatClampNeg) = 114 then
    gd (ix x1 20) (
    if x2 = (C.2 10 x1.toNatClampNeg) then
      gd (ix x1 20) (
      bd (pX7_has C (C.1 5) (C.2 9 x1.toNatClampNeg)) (fun r_6 =>
      if r_6 = 0 then
        pX7_told_41 C x1 x2
      else
        some 1))
    else
      pX7_told_41 C x1 x2))
  else
    gd (ix x1 20) (
    if (C.2 6 x1.toNatClampNeg) = 101 then
      gd (ix x1 20) (
      if x2 = (C.2 10 x1.toNatClampNeg) then
        gd (ix x1 20) (
        bd (pX7_has C (C.1 5) (C.2 9 x1.toNatClampNeg)) (fun r_4 =>
        if r_4 = 0 then
          pX7_told_110 C x1 x2
        else
          some (-1)))
      else
        pX7_told_110 C x1 x2))
    else
      gd (ix x1 20) (
      gd (ix x1 20) (
      gd (ix x1 20) (
      ltv (((1 <<< ((C.2 9 x1.toNatClampNeg) &&& 31)) ||| (1 <<< ((C.2 10 x1.toNatClampNeg) &&& 31))) ||| (1 <<< ((C.2 11 x1.toNatClampNeg) &&& 31))) (fun v_1 =>
      ltv (v_1 &&& ((1 <<< (x2 &&& 31)) ^^^ (-1))) (fun v_2 =>
      gd (ix x1 20) (
      if x2 = (C.2 9 x1.toNatClampNeg) then
        pX7_told_207 C v_2
      else
        gd (ix x1 20) (
        if x2 = (C.2 10 x1.toNatClampNeg) then
          pX7_told_207 C v_2
        else
          gd (ix x1 20) (
          if x2 = (C.2 11 x1.toNatClampNeg) then
            pX7_told_207 C v_2
          else
            some 0))))))))))

def pX7_priced_166 (k41 : St → Int32 → Int32 → Int32 → Option (Int32)) (C : St) (x1 : Int32) (x3 : Int32) (t0 : Int32) (t1 : Int32) : Option (Int32) :=
  ltv (t0 + t1) (fun v_3 =>
  ltv (x3 + 1) (fun v_4 =>
  k41 C x1 v_3 v_4

def pX7_priced_126 (k41 : St → Int32 → Int32 → Int32 → Option (Int32)) (C : St) (x1 : Int32) (x3 : Int32) (t0 : Int32) (t1 : Int32) : Option (Int32) :=
  ltv (t0 - t1) (fun v_2 =>
  gd (ix x3 6) (
  if (C.2 7 x3.toNatClampNeg) = 115 then
    gd (ix x3 6) (
    bd (pJ6_bitCount_0f7a4 x1) (fun r_5 =>
    gd (ix x3 6) (
    pX7_priced_166 k41 C x1 x3 v_2 ((C.2 14 x3.toNatClampNeg) * (if 0 < (r_5 - (C.2 12 x3.toNatClampNeg)) then (r_5 - (C.2 12 x3.toNatClampNeg)) else 0)))))
  else
    pX7_priced_166 k41 C x1 x3 v_2 0))

def pX7_priced_97 (k41 : St → Int32 → Int32 → Int32 → Option (Int32)) (C : St) (x1 : Int32) (x3 : Int32) (t0 : Int32) (t1 : Int32) : Option (Int32) :=
  ltv (t0 - t1) (fun v_1 =>
  gd (ix x3 6) (
  if (C.2 7 x3.toNatClampNeg) = 112 then
    gd (ix x3 6) (
    pX7_priced_126 k41 C x1 x3 v_1 ((v_1 * (C.2 14 x3.toNatClampNeg)) / 100))
  else
    pX7_priced_126 k41 C x1 x3 v_1 0))

def pX7_priced_96 (k41 : St → Int32 → Int32 → Int32 → Option (Int32)) (C : St) (x1 : Int32) (x3 : Int32) (t0 : Int32) : Option (Int32) :=
  pX7_priced_97 k41 C x1 x3 t0 0

def pX7_priced_41_b (k41 : St → Int32 → Int32 → Int32 → Option (Int32)) (C : St) (x1 : Int32) (x2 : Int32) (x3 : Int32) : Option (Int32) :=
  if (C.1 2) ≤ x3 then
    some x2
  else
    gd (ix x3 6) (
    if (C.2 7 x3.toNatClampNeg) = 98 then
      gd (ix x3 6) (
      bd (pX7_has C x1 (C.2 12 x3.toNatClampNeg)) (fun r_6 =>
      if r_6 = 0 then
        pX7_priced_96 k41 C x1 x3 x2
      else
        gd (ix x3 6) (
        bd (pX7_has C x1 (C.2 13 x3.toNatClampNeg)) (fun r_7 =>
        if r_7 = 0 then
          pX7_priced_96 k41 C x1 x3 x2
        else
          gd (ix x3 6) (
          pX7_priced_97 k41 C x1 x3 x2 (C.2 14 x3.toNatClampNeg))))))
    else
      pX7_priced_96 k41 C x1 x3 x2)))

def pX7_priced_41 : Nat → St → Int32 → Int32 → Int32 → Option (Int32)
  | 0 => fun _ _ _ _ => none
  | n + 1 => fun C x1 x2 x3 => pX7_priced_41_b (pX7_priced_41 n) C x1 x2 x3

def pX7_priced_31 (k4 : St → Int32 → Int32 → Int32 → Option (Int32)) (C : St) (x1 : Int32) (x3 : Int32) (t0 : Int32) (t1 : Int32) : Option (Int32) :=
  ltv (t0 + t1) (fun v_9 =>
  ltv (x3 + 1) (fun v_10 =>
  k4 C x1 v_9 v_10

def pX7_priced_4_b (k4 : St → Int32 → Int32 → Int32 → Option (Int32)) (C : St) (x1 : Int32) (x2 : Int32) (x3 : Int32) : Option (Int32) :=
  if (C.1 0) ≤ x3 then
    pX7_priced_41 FU C x1 x2 0
  else
    bd (pX7_has C x1 x3) (fun r_8 =>
    if r_8 = 0 then
      pX7_priced_31 k4 C x1 x3 x2 0))
    else
      gd (ix x3 12) (
      pX7_priced_31 k4 C x1 x3 x2 (C.2 1 x3.toNatClampNeg)))

def pX7_priced_4 : Nat → St → Int32 → Int32 → Int32 → Option (Int32)
  | 0 => fun _ _ _ _ => none
  | n + 1 => fun C x1 x2 x3 => pX7_priced_4_b (pX7_priced_4 n) C x1 x2 x3

def pX7_priced (C : St) (x1 : Int32) : Option (Int32) :=
  pX7_priced_4 FU C x1 0 0

def pX7_isCheaper (C : St) (x1 : Int32) (x2 : Int32) : Option (Int32) :=
  bd (pX7_priced C x1) (fun r_1 =>
  bd (pX7_priced C x2) (fun r_2 =>
  bd (pJ6_bitCount_0f7a4 x1) (fun r_3 =>
  bd (pJ6_bitCount_0f7a4 x2) (fun r_4 =>
  if r_1 < r_2 then
    some 1
  else
    if r_1 = r_2 then
      if r_3 < r_4 then
        some 1
      else
        if r_3 = r_4 then
          if x2 ≤ x1 then
            some 0
          else
            some 1
        else
          some 0
    else
      some 0))))

def pX7_wrong_97 (k5 : St → Int32 → Int32 → Int32 → Int32 → Option (Int32)) (C : St) (x1 : Int32) (x2 : Int32) (x3 : Int32) (x4 : Int32) : Option (Int32) :=
  ltv (x4 + 2) (fun v_2 =>
  k5 C x1 x2 x3 v_2

def pX7_wrong_96 (k5 : St → Int32 → Int32 → Int32 → Int32 → Option (Int32)) (C : St) (x1 : Int32) (x2 : Int32) (x4 : Int32) (t0 : Int32) : Option (Int32) :=
  pX7_wrong_97 k5 C x1 x2 t0 x4

def pX7_wrong_90 (k5 : St → Int32 → Int32 → Int32 → Int32 → Option (Int32)) (C : St) (x1 : Int32) (x2 : Int32) (x4 : Int32) (x5 : Int32) : Option (Int32) :=
  pX7_wrong_96 k5 C x1 x2 x4 x5

def pX7_wrong_95 (k5 : St → Int32 → Int32 → Int32 → Int32 → Option (Int32)) (C : St) (x1 : Int32) (x2 : Int32) (x3 : Int32) (x4 : Int32) : Option (Int32) :=
  pX7_wrong_96 k5 C x1 x2 x4 x3

def pX7_wrong_72 (k5 : St → Int32 → Int32 → Int32 → Int32 → Option (Int32)) (C : St) (x1 : Int32) (x2 : Int32) (x3 : Int32) (x4 : Int32) (x5 : Int32) (t0 : Int32) : Option (Int32) :=
  if t0 < 0 then
    pX7_wrong_90 k5 C x1 x2 x4 x5
  else
    if t0 = 0 then
      if x3 ≤ x5 then
        pX7_wrong_95 k5 C x1 x2 x3 x4
      else
        pX7_wrong_90 k5 C x1 x2 x4 x5
    else
      pX7_wrong_95 k5 C x1 x2 x3 x4

def pX7_wrong_5_b (k5 : St → Int32 → Int32 → Int32 → Int32 → Option (Int32)) (C : St) (x1 : Int32) (x2 : Int32) (x3 : Int32) (x4 : Int32) : Option (Int32) :=
  if (1 <<< ((C.1 0) &&& 31)) ≤ x4 then
    some x3
  else
    bd (pX7_has C x4 x1) (fun r_1 =>
    if r_1 = x2 then
      bd (pX7_isGood C x4) (fun r_3 =>
      if r_3 = 0 then
        pX7_wrong_97 k5 C x1 x2 x3 x4
      else
        ltv (((C.1 3) &&& (x4 ^^^ (-1))) ||| ((C.1 4) &&& x4)) (fun v_4 =>
        if 0 ≤ x3 then
          bd (pJ6_bitCount_0f7a4 v_4) (fun r_5 =>
          bd (pJ6_bitCount_0f7a4 x3) (fun r_6 =>
          pX7_wrong_72 k5 C x1 x2 x3 x4 v_4 (r_5 - r_6)))
        else
          pX7_wrong_72 k5 C x1 x2 x3 x4 v_4 (-1)))
    else
      pX7_wrong_97 k5 C x1 x2 x3 x4))

def pX7_wrong_5 : Nat → St → Int32 → Int32 → Int32 → Int32 → Option (Int32)
  | 0 => fun _ _ _ _ _ => none
  | n + 1 => fun C x1 x2 x3 x4 => pX7_wrong_5_b (pX7_wrong_5 n) C x1 x2 x3 x4

def pX7_wrong (C : St) (x1 : Int32) (x2 : Int32) : Option (Int32) :=
  pX7_wrong_5 FU C x1 x2 (-1) 1

def pX7_thrown (C : St) : Option (Int32) :=
  some (C.1 7)
