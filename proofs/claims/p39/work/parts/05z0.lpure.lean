/-! ===== p39: the law's functions. Row 14 of a state is the law's own row, row 15 its copy ===== -/
abbrev SC : Type := Nat × (Nat → Int32)
/-- the class's numbers out of one, all else out of the other -/
def mg (u C : St) : St := (u.1, fun k => if k < 14 then u.2 k else C.2 k)
def cp (C : St) : St := (C.1, fun k => if k = 15 then C.2 14 else C.2 k)
def nx (C : St) : St := (C.1, fun _ => C.2 15)
/-! ===== what the law's tries answer ===== -/
def wresW (x : Option ((Nat × St) ⊕ (Int32 × St))) (cd : Nat → Int32) (f : Int32 → Int32) : Option (Int32 × St) := match x with
  | none => none
  | some (.inl e) => if cd e.1 = 0 then none else some (cd e.1, e.2)
  | some (.inr r) => some (f r.1, r.2)
def wresR (x : Option (Nat ⊕ Int32)) (C : St) (cd : Nat → Int32) (f : Int32 → Int32) : Option (Int32 × St) := match x with
  | none => none
  | some (.inl e) => if cd e = 0 then none else some (cd e, C)
  | some (.inr r) => some (f r, C)
def cdL_addFeature (k : Nat) : Int32 := if k = 1 then (-900001) else if k = 2 then (-900002) else if k = 3 then (-900003) else 0
def pL_addFeature (C : St) (x1 : Int32) (x2 : Int32) : Option (Int32 × St) := wresW (pX6_addFeature C x1 x2) cdL_addFeature (fun r => r)
def cdL_setGroup (k : Nat) : Int32 := if k = 1 then (-900001) else if k = 2 then (-900002) else if k = 4 then (-900003) else 0
def pL_setGroup (C : St) (x1 : Int32) (x2 : Int32) (x3 : Int32) : Option (Int32 × St) := wresW (pX6_setGroup C x1 x2 x3) cdL_setGroup (fun r => r)
def cdL_require (k : Nat) : Int32 := if k = 1 then (-900001) else if k = 2 then (-900002) else if k = 3 then (-900003) else if k = 4 then (-900004) else 0
def pL_require (C : St) (x1 : Int32) (x2 : Int32) : Option (Int32 × St) := wresW (pX6_require C x1 x2) cdL_require (fun r => r)
def cdL_exclude (k : Nat) : Int32 := if k = 1 then (-900001) else if k = 2 then (-900002) else if k = 3 then (-900003) else if k = 4 then (-900004) else 0
def pL_exclude (C : St) (x1 : Int32) (x2 : Int32) : Option (Int32 × St) := wresW (pX6_exclude C x1 x2) cdL_exclude (fun r => r)
def cdL_any (k : Nat) : Int32 := if k = 1 then (-900001) else if k = 2 then (-900002) else if k = 3 then (-900003) else if k = 4 then (-900004) else 0
def pL_any (C : St) (x1 : Int32) (x2 : Int32) (x3 : Int32) : Option (Int32 × St) := wresW (pX6_any C x1 x2 x3) cdL_any (fun r => r)
def cdL_lift (k : Nat) : Int32 := if k = 5 then (-900001) else if k = 3 then (-900002) else 0
def pL_lift (C : St) (x1 : Int32) : Option (Int32 × St) := wresW (pX6_lift C x1) cdL_lift (fun r => r)
def cdL_choose (k : Nat) : Int32 := if k = 1 then (-900001) else if k = 2 then (-900002) else if k = 3 then (-900003) else if k = 4 then (-900004) else 0
def pL_choose (C : St) (x1 : Int32) : Option (Int32 × St) := wresW (pX6_choose C x1) cdL_choose (fun r => r)
def cdL_refuse (k : Nat) : Int32 := if k = 1 then (-900001) else if k = 2 then (-900002) else if k = 3 then (-900003) else if k = 4 then (-900004) else 0
def pL_refuse (C : St) (x1 : Int32) : Option (Int32 × St) := wresW (pX6_refuse C x1) cdL_refuse (fun r => r)
def cdL_retract (k : Nat) : Int32 := if k = 1 then (-900001) else if k = 3 then (-900002) else 0
def pL_retract (C : St) (x1 : Int32) : Option (Int32 × St) := wresW (pX6_retract C x1) cdL_retract (fun r => r)
def cdL_stateOf (k : Nat) : Int32 := if k = 1 then (-900001) else 0
def pL_stateOf (C : St) (x1 : Int32) : Option (Int32 × St) := wresR (pX6_stateOf C x1) C cdL_stateOf (fun r => r)
def pnL_stateOf (C : St) (x1 : Int32) : Option Int32 := tn (pX6_stateOf C x1) (fun r => some r)
def cdL_stateByAll (k : Nat) : Int32 := if k = 1 then (-900001) else 0
def pL_stateByAll (C : St) (x1 : Int32) : Option (Int32 × St) := wresR (pX6_stateByAll C x1) C cdL_stateByAll (fun r => r)
def pnL_stateByAll (C : St) (x1 : Int32) : Option Int32 := tn (pX6_stateByAll C x1) (fun r => some r)
def cdL_setMandatory (k : Nat) : Int32 := if k = 1 then (-900001) else if k = 2 then (-900002) else if k = 4 then (-900003) else 0
def pL_setMandatory (C : St) (x1 : Int32) (x2 : Int32) : Option (Int32 × St) := wresW (pX6_setMandatory C x1 x2) cdL_setMandatory (fun r => if r = 0 then 0 else 1)
def cdL_isConfiguration (k : Nat) : Int32 := if k = 2 then (-900001) else 0
def pL_isConfiguration (C : St) (x1 : Int32) : Option (Int32 × St) := wresR (pX6_isConfiguration C x1) C cdL_isConfiguration (fun r => if r = 0 then 0 else 1)
def pL_cell_15 (T : SC) (x1 : Int32) (t0 : Int32) (t1 : Int32) : Option (Int32) :=
  ltv ((t0 * (t1 + (1009 * x1))) + 12345) (fun v_1 =>
  ltv ((v_1 ^^^ ((v_1.toUInt32 >>> ((13 : Int32).toUInt32 &&& Int32.toUInt32 31)).toInt32)) * 1103515245) (fun v_2 =>
  some (v_2 ^^^ ((v_2.toUInt32 >>> ((16 : Int32).toUInt32 &&& Int32.toUInt32 31)).toInt32))))

def pL_cell (T : SC) (x1 : Int32) : Option (Int32) :=
  if (nI T.1) ≤ x1 then
    pL_cell_15 T x1 69069 0
  else
    gd (ix x1 T.1) (
    pL_cell_15 T x1 69069 (T.2 x1.toNatClampNeg))

def pL_in (T : SC) (x1 : Int32) (x2 : Int32) : Option (Int32) :=
  bd (pL_cell T x1) (fun r_1 =>
  gd (¬ x2 = 0) (
  some ((r_1 &&& 2147483647) - (r_1 &&& 2147483647) / x2 * x2)))

def pL_isIn (x0 : Int32) (x1 : Int32) : Option (Int32) :=
  if ((x0 >>> (x1 &&& 31)) &&& 1) = 1 then
    some 1
  else
    some 0

def pL_many_4_b (k4 : Int32 → Int32 → Option (Int32)) (x1 : Int32) (x2 : Int32) : Option (Int32) :=
  if x2 = 0 then
    some x1
  else
    ltv (x1 + 1) (fun v_1 =>
    ltv (x2 &&& (x2 - 1)) (fun v_2 =>
    k4 v_1 v_2))

def pL_many_4 : Nat → Int32 → Int32 → Option (Int32)
  | 0 => fun _ _ => none
  | n + 1 => fun x1 x2 => pL_many_4_b (pL_many_4 n) x1 x2

def pL_many (x0 : Int32) : Option (Int32) :=
  pL_many_4 FU 0 x0

def pL_isTree_132 (k10 : St → Int32 → Int32 → Int32 → Int32 → Int32 → Option (Int32)) (C : St) (x1 : Int32) (x2 : Int32) (x3 : Int32) (x4 : Int32) (x5 : Int32) : Option (Int32) :=
  ltv (x5 + 1) (fun v_3 =>
  k10 C x1 x2 x3 x4 v_3)

def pL_isTree_130 (k10 : St → Int32 → Int32 → Int32 → Int32 → Int32 → Option (Int32)) (C : St) (x1 : Int32) (x2 : Int32) (x3 : Int32) (x5 : Int32) (t0 : Int32) : Option (Int32) :=
  pL_isTree_132 k10 C x1 x2 x3 t0 x5

def pL_isTree_129 (k10 : St → Int32 → Int32 → Int32 → Int32 → Int32 → Option (Int32)) (C : St) (x1 : Int32) (x2 : Int32) (x3 : Int32) (x5 : Int32) : Option (Int32) :=
  pL_isTree_130 k10 C x1 x2 x3 x5 0

def pL_isTree_107 (self : St → Int32 → Int32 → Option (Int32)) (k10 : St → Int32 → Int32 → Int32 → Int32 → Int32 → Option (Int32)) (C : St) (x1 : Int32) (x2 : Int32) (x3 : Int32) (x5 : Int32) (t0 : Int32) (t1 : Int32) : Option (Int32) :=
  ltv (t0 &&& t1) (fun v_9 =>
  if v_9 = 0 then
    pL_isTree_129 k10 C x1 x2 x3 x5
  else
    bd (self C x1 x5) (fun r_10 =>
    if r_10 = 0 then
      pL_isTree_129 k10 C x1 x2 x3 x5
    else
      pL_isTree_130 k10 C x1 x2 x3 x5 1))

def pL_isTree_102 (self : St → Int32 → Int32 → Option (Int32)) (k10 : St → Int32 → Int32 → Int32 → Int32 → Int32 → Option (Int32)) (C : St) (x1 : Int32) (x2 : Int32) (x3 : Int32) (x5 : Int32) (t0 : Int32) : Option (Int32) :=
  pL_isTree_107 self k10 C x1 x2 x3 x5 t0 1

def pL_isTree_80 (self : St → Int32 → Int32 → Option (Int32)) (k10 : St → Int32 → Int32 → Int32 → Int32 → Int32 → Option (Int32)) (C : St) (x1 : Int32) (x2 : Int32) (x3 : Int32) (x5 : Int32) (t0 : Int32) (t1 : Int32) : Option (Int32) :=
  ltv (t0 &&& t1) (fun v_7 =>
  bd (pL_isIn x1 x2) (fun r_8 =>
  if r_8 = 0 then
    bd (pL_isIn x1 x5) (fun r_11 =>
    if r_11 = 0 then
      pL_isTree_102 self k10 C x1 x2 x3 x5 v_7
    else
      pL_isTree_107 self k10 C x1 x2 x3 x5 v_7 0)
  else
    pL_isTree_102 self k10 C x1 x2 x3 x5 v_7))

def pL_isTree_75 (self : St → Int32 → Int32 → Option (Int32)) (k10 : St → Int32 → Int32 → Int32 → Int32 → Int32 → Option (Int32)) (C : St) (x1 : Int32) (x2 : Int32) (x3 : Int32) (x5 : Int32) (t0 : Int32) : Option (Int32) :=
  pL_isTree_80 self k10 C x1 x2 x3 x5 t0 1

def pL_isTree_44 (self : St → Int32 → Int32 → Option (Int32)) (k10 : St → Int32 → Int32 → Int32 → Int32 → Int32 → Option (Int32)) (C : St) (x1 : Int32) (x2 : Int32) (x4 : Int32) (x5 : Int32) (t0 : Int32) (t1 : Int32) : Option (Int32) :=
  ltv (t0 + t1) (fun v_5 =>
  bd (pL_isIn x1 x5) (fun r_6 =>
  if r_6 = 0 then
    gd (ix (90 + x5) 250) (
    if (C.2 14 (90 + x5).toNatClampNeg) = 0 then
      pL_isTree_75 self k10 C x1 x2 v_5 x5 x4
    else
      bd (pL_isIn x1 x2) (fun r_12 =>
      if r_12 = 0 then
        pL_isTree_75 self k10 C x1 x2 v_5 x5 x4
      else
        pL_isTree_80 self k10 C x1 x2 v_5 x5 x4 0))
  else
    pL_isTree_75 self k10 C x1 x2 v_5 x5 x4))

def pL_isTree_10_b (self : St → Int32 → Int32 → Option (Int32)) (k10 : St → Int32 → Int32 → Int32 → Int32 → Int32 → Option (Int32)) (C : St) (x1 : Int32) (x2 : Int32) (x3 : Int32) (x4 : Int32) (x5 : Int32) : Option (Int32) :=
  gd (ix 0 250) (
  if (C.2 14 (0 : Int32).toNatClampNeg) ≤ x5 then
    if x4 = 0 then
      some 0
    else
      bd (pL_isIn x1 x2) (fun r_2 =>
      if r_2 = 0 then
        some 1
      else
        gd (ix (50 + x2) 250) (
        if x3 < (C.2 14 (50 + x2).toNatClampNeg) then
          some 0
        else
          gd (ix (70 + x2) 250) (
          if (C.2 14 (70 + x2).toNatClampNeg) < x3 then
            some 0
          else
            some 1)))
  else
    gd (ix (10 + x5) 250) (
    if (C.2 14 (10 + x5).toNatClampNeg) = x2 then
      bd (pL_isIn x1 x5) (fun r_4 =>
      if r_4 = 0 then
        pL_isTree_44 self k10 C x1 x2 x4 x5 x3 0
      else
        pL_isTree_44 self k10 C x1 x2 x4 x5 x3 1)
    else
      pL_isTree_132 k10 C x1 x2 x3 x4 x5))

def pL_isTree_10 (self : St → Int32 → Int32 → Option (Int32)) : Nat → St → Int32 → Int32 → Int32 → Int32 → Int32 → Option (Int32)
  | 0 => fun _ _ _ _ _ _ => none
  | n + 1 => fun C x1 x2 x3 x4 x5 => pL_isTree_10_b self (pL_isTree_10 self n) C x1 x2 x3 x4 x5

def pL_isTree_e (self : St → Int32 → Int32 → Option (Int32)) (C : St) (x1 : Int32) (x2 : Int32) : Option (Int32) :=
  ltv (x2 + 1) (fun v_1 =>
  pL_isTree_10 self FU C x1 x2 0 1 v_1)

def pL_isTree : Nat → St → Int32 → Int32 → Option (Int32)
  | 0 => fun _ _ _ => none
  | n + 1 => fun C x1 x2 => pL_isTree_e (pL_isTree n) C x1 x2

def pL_isRight_164 (k23 : St → Int32 → Int32 → Int32 → Option (Int32)) (C : St) (x1 : Int32) (x3 : Int32) (t0 : Int32) (t1 : Int32) : Option (Int32) :=
  ltv (t0 &&& t1) (fun v_6 =>
  ltv (x3 + 1) (fun v_7 =>
  k23 C x1 v_6 v_7))

def pL_isRight_159 (k23 : St → Int32 → Int32 → Int32 → Option (Int32)) (C : St) (x1 : Int32) (x3 : Int32) (t0 : Int32) : Option (Int32) :=
  pL_isRight_164 k23 C x1 x3 t0 1

def pL_isRight_141 (k23 : St → Int32 → Int32 → Int32 → Option (Int32)) (C : St) (x1 : Int32) (x2 : Int32) (x3 : Int32) (x4 : Int32) (t0 : Int32) : Option (Int32) :=
  gd (ix (x4 + 4) 250) (
  if (C.2 14 (x4 + 4).toNatClampNeg) = 1 then
    pL_isRight_159 k23 C x1 x3 x2
  else
    if t0 = 0 then
      pL_isRight_164 k23 C x1 x3 x2 0
    else
      pL_isRight_159 k23 C x1 x3 x2)

def pL_isRight_136 (k23 : St → Int32 → Int32 → Int32 → Option (Int32)) (C : St) (x1 : Int32) (x2 : Int32) (x3 : Int32) (x4 : Int32) : Option (Int32) :=
  pL_isRight_141 k23 C x1 x2 x3 x4 1

def pL_isRight_105 (k23 : St → Int32 → Int32 → Int32 → Option (Int32)) (C : St) (x1 : Int32) (x2 : Int32) (x3 : Int32) (x4 : Int32) : Option (Int32) :=
  pL_isRight_141 k23 C x1 x2 x3 x4 1

def pL_isRight_79 (k23 : St → Int32 → Int32 → Int32 → Option (Int32)) (C : St) (x1 : Int32) (x2 : Int32) (x3 : Int32) (x4 : Int32) : Option (Int32) :=
  pL_isRight_141 k23 C x1 x2 x3 x4 1

def pL_isRight_23_b (k23 : St → Int32 → Int32 → Int32 → Option (Int32)) (C : St) (x1 : Int32) (x2 : Int32) (x3 : Int32) : Option (Int32) :=
  gd (ix 1 250) (
  if (C.2 14 (1 : Int32).toNatClampNeg) ≤ x3 then
    gd (okZ x2) (
    some x2)
  else
    ltv (110 + (5 * x3)) (fun v_3 =>
    gd (ix (v_3 + 1) 250) (
    bd (pL_isIn x1 (C.2 14 (v_3 + 1).toNatClampNeg)) (fun r_4 =>
    gd (ix (v_3 + 2) 250) (
    bd (pL_isIn x1 (C.2 14 (v_3 + 2).toNatClampNeg)) (fun r_5 =>
    gd (ix v_3 250) (
    if (C.2 14 v_3.toNatClampNeg) = 0 then
      if r_4 = 0 then
        pL_isRight_79 k23 C x1 x2 x3 v_3
      else
        if r_5 = 0 then
          pL_isRight_141 k23 C x1 x2 x3 v_3 0
        else
          pL_isRight_79 k23 C x1 x2 x3 v_3
    else
      gd (ix v_3 250) (
      if (C.2 14 v_3.toNatClampNeg) = 1 then
        if r_4 = 0 then
          pL_isRight_105 k23 C x1 x2 x3 v_3
        else
          if r_5 = 0 then
            pL_isRight_105 k23 C x1 x2 x3 v_3
          else
            pL_isRight_141 k23 C x1 x2 x3 v_3 0
      else
        if r_4 = 0 then
          if r_5 = 0 then
            gd (ix (v_3 + 3) 250) (
            bd (pL_isIn x1 (C.2 14 (v_3 + 3).toNatClampNeg)) (fun r_8 =>
            if r_8 = 0 then
              pL_isRight_141 k23 C x1 x2 x3 v_3 0
            else
              pL_isRight_136 k23 C x1 x2 x3 v_3))
          else
            pL_isRight_136 k23 C x1 x2 x3 v_3
        else
          pL_isRight_136 k23 C x1 x2 x3 v_3))))))))

def pL_isRight_23 : Nat → St → Int32 → Int32 → Int32 → Option (Int32)
  | 0 => fun _ _ _ _ => none
  | n + 1 => fun C x1 x2 x3 => pL_isRight_23_b (pL_isRight_23 n) C x1 x2 x3

def pL_isRight (C : St) (x1 : Int32) : Option (Int32) :=
  bd (pL_isIn x1 0) (fun r_1 =>
  if r_1 = 0 then
    some 0
  else
    bd (pL_isTree RU C x1 0) (fun r_2 =>
    if r_2 = 0 then
      some 0
    else
      pL_isRight_23 FU C x1 1 0))

def pL_completes (C : St) (x1 : Int32) : Option (Int32) :=
  gd (ix 4 250) (
  if (x1 &&& (C.2 14 (4 : Int32).toNatClampNeg)) = 0 then
    gd (ix 3 250) (
    if ((C.2 14 (3 : Int32).toNatClampNeg) &&& (x1 ^^^ (-1))) = 0 then
      bd (pL_isRight C x1) (fun r_1 =>
      if r_1 = 0 then
        some 0
      else
        some 1)
    else
      some 0)
  else
    some 0)

def pL_isPossible_8_b (k8 : St → Int32 → Option (Int32)) (C : St) (x1 : Int32) : Option (Int32) :=
  if x1 ≤ 0 then
    some 0
  else
    bd (pL_completes C x1) (fun r_2 =>
    if r_2 = 0 then
      ltv (x1 + (-1)) (fun v_3 =>
      k8 C v_3)
    else
      some 1)

def pL_isPossible_8 : Nat → St → Int32 → Option (Int32)
  | 0 => fun _ _ => none
  | n + 1 => fun C x1 => pL_isPossible_8_b (pL_isPossible_8 n) C x1

def pL_isPossible (C : St) : Option (Int32) :=
  gd (ix 0 250) (
  ltv (((1 : Int32) <<< ((C.2 14 (0 : Int32).toNatClampNeg) &&& 31)) - 1) (fun v_1 =>
  pL_isPossible_8 FU C v_1))

def pL_isFeature_46 (T : SC) (C : St) (x4 : Int32) (t0 : Int32) : Option (Int32 × St) :=
  gd (ix 0 250) (
  if (C.2 14 (0 : Int32).toNatClampNeg) = 8 then
    bd (pL_addFeature C x4 1000) (fun u_10 =>
    ltv (mg u_10.2 C) (fun C_11 =>
    if (u_10.1) = (-900002) then
      some (1, C_11)
    else
      some (0, C_11)))
  else
    gd (ix 0 250) (
    gd (ix (10 + (C.2 14 (0 : Int32).toNatClampNeg)) 250) (
    ltv (sA C 14 (10 + (C.2 14 (0 : Int32).toNatClampNeg)).toNatClampNeg x4) (fun C_4 =>
    gd (ix 0 250) (
    gd (ix (30 + (C_4.2 14 (0 : Int32).toNatClampNeg)) 250) (
    ltv (sA C_4 14 (30 + (C_4.2 14 (0 : Int32).toNatClampNeg)).toNatClampNeg t0) (fun C_5 =>
    gd (ix 0 250) (
    gd (ix (70 + (C_5.2 14 (0 : Int32).toNatClampNeg)) 250) (
    ltv (sA C_5 14 (70 + (C_5.2 14 (0 : Int32).toNatClampNeg)).toNatClampNeg 12) (fun C_6 =>
    gd (ix 0 250) (
    gd (ix 0 250) (
    ltv (sA C_6 14 (0 : Int32).toNatClampNeg ((C_6.2 14 (0 : Int32).toNatClampNeg) + 1)) (fun C_7 =>
    bd (pL_addFeature C_7 x4 t0) (fun u_8 =>
    ltv (mg u_8.2 C_7) (fun C_9 =>
    gd (ix 0 250) (
    if (u_8.1) = ((C_9.2 14 (0 : Int32).toNatClampNeg) - 1) then
      some (1, C_9)
    else
      some (0, C_9)))))))))))))))))

def pL_isFeature (T : SC) (C : St) (x3 : Int32) : Option (Int32 × St) :=
  gd (ix 0 250) (
  bd (pL_in T x3 (C.2 14 (0 : Int32).toNatClampNeg)) (fun r_1 =>
  bd (pL_in T (x3 + 1) 5) (fun r_2 =>
  if r_2 = 0 then
    bd (pL_in T (x3 + 2) 1000) (fun r_12 =>
    pL_isFeature_46 T C r_1 r_12)
  else
    bd (pL_in T (x3 + 2) 6) (fun r_3 =>
    pL_isFeature_46 T C r_1 (10 * r_3)))))

def pL_isGroup_122 (k96 : St → Int32 → Int32 → Int32 → Int32 → Int32 → Option (Int32 × St)) (C : St) (x2 : Int32) (x3 : Int32) (x4 : Int32) (x7 : Int32) (t0 : Int32) (t1 : Int32) : Option (Int32 × St) :=
  ltv (t0 + t1) (fun v_9 =>
  ltv (x7 + 1) (fun v_10 =>
  k96 C x2 x3 x4 v_9 v_10))

def pL_isGroup_96_b (k96 : St → Int32 → Int32 → Int32 → Int32 → Int32 → Option (Int32 × St)) (C : St) (x2 : Int32) (x3 : Int32) (x4 : Int32) (x6 : Int32) (x7 : Int32) : Option (Int32 × St) :=
  gd (ix 0 250) (
  if (C.2 14 (0 : Int32).toNatClampNeg) ≤ x7 then
    bd (pL_setGroup C x2 x3 x4) (fun u_7 =>
    ltv (mg u_7.2 C) (fun C_8 =>
    if (u_7.1) = x6 then
      some (1, C_8)
    else
      some (0, C_8)))
  else
    gd (ix (10 + x7) 250) (
    if (C.2 14 (10 + x7).toNatClampNeg) = x2 then
      pL_isGroup_122 k96 C x2 x3 x4 x7 x6 1
    else
      pL_isGroup_122 k96 C x2 x3 x4 x7 x6 0))

def pL_isGroup_96 : Nat → St → Int32 → Int32 → Int32 → Int32 → Int32 → Option (Int32 × St)
  | 0 => fun _ _ _ _ _ _ => none
  | n + 1 => fun C x2 x3 x4 x6 x7 => pL_isGroup_96_b (pL_isGroup_96 n) C x2 x3 x4 x6 x7

def pL_isGroup (C : St) (x2 : Int32) (x3 : Int32) (x4 : Int32) : Option (Int32 × St) :=
  ltv (cp C) (fun C_1 =>
  gd (ix (50 + x2) 250) (
  ltv (sA C_1 15 (50 + x2).toNatClampNeg x3) (fun C_2 =>
  gd (ix (70 + x2) 250) (
  ltv (sA C_2 15 (70 + x2).toNatClampNeg x4) (fun C_3 =>
  if x3 ≤ x4 then
    bd (pL_isPossible (nx C_3)) (fun r_4 =>
    if r_4 = 0 then
      bd (pL_setGroup C_3 x2 x3 x4) (fun u_11 =>
      ltv (mg u_11.2 C_3) (fun C_12 =>
      if (u_11.1) = (-900003) then
        some (1, C_12)
      else
        some (0, C_12)))
    else
      gd (ix (50 + x2) 250) (
      ltv (sA C_3 14 (50 + x2).toNatClampNeg x3) (fun C_5 =>
      gd (ix (70 + x2) 250) (
      ltv (sA C_5 14 (70 + x2).toNatClampNeg x4) (fun C_6 =>
      pL_isGroup_96 FU C_6 x2 x3 x4 0 1)))))
  else
    bd (pL_setGroup C_3 x2 x3 x4) (fun u_13 =>
    ltv (mg u_13.2 C_3) (fun C_14 =>
    if (u_13.1) = (-900002) then
      some (1, C_14)
    else
      some (0, C_14))))))))

def pL_isMandatory_42 (C : St) (x2 : Int32) (x3 : Int32) (t1 : Int32) (t2 : Int32) : Option (Int32 × St) :=
  gd (ix t1 250) (
  ltv (sA C 15 t1.toNatClampNeg t2) (fun C_2 =>
  bd (pL_isPossible (nx C_2)) (fun r_3 =>
  if r_3 = 0 then
    bd (pL_setMandatory C_2 x2 x3) (fun u_8 =>
    ltv (mg u_8.2 C_2) (fun C_9 =>
    if (u_8.1) = (-900003) then
      some (1, C_9)
    else
      some (0, C_9)))
  else
    gd (ix (90 + x2) 250) (
    ltv (C_2.2 14 (90 + x2).toNatClampNeg) (fun v_4 =>
    gd (ix (90 + x2) 250) (
    gd (ix (90 + x2) 250) (
    ltv (sA C_2 14 (90 + x2).toNatClampNeg (C_2.2 15 (90 + x2).toNatClampNeg)) (fun C_5 =>
    bd (pL_setMandatory C_5 x2 x3) (fun u_6 =>
    ltv (mg u_6.2 C_5) (fun C_7 =>
    if (u_6.1) = v_4 then
      some (1, C_7)
    else
      some (0, C_7)))))))))))

def pL_isMandatory (C : St) (x2 : Int32) (x3 : Int32) : Option (Int32 × St) :=
  if x2 = 0 then
    bd (pL_setMandatory C 0 x3) (fun u_10 =>
    ltv (mg u_10.2 C) (fun C_11 =>
    if (u_10.1) = (-900002) then
      some (1, C_11)
    else
      some (0, C_11)))
  else
    ltv (cp C) (fun C_1 =>
    if x3 = 0 then
      pL_isMandatory_42 C_1 x2 x3 (90 + x2) 0
    else
      pL_isMandatory_42 C_1 x2 x3 (90 + x2) 1)

def pL_isRule_209 (C : St) (x8 : Int32) (t0 : Int32) : Option (Int32 × St) :=
  if t0 = x8 then
    some (1, C)
  else
    some (0, C)

def pL_isRule_171 (C : St) (x2 : Int32) (x3 : Int32) (x4 : Int32) (x5 : Int32) (x8 : Int32) : Option (Int32 × St) :=
  if x2 = 0 then
    bd (pL_require C x3 x4) (fun u_7 =>
    ltv (mg u_7.2 C) (fun C_8 =>
    pL_isRule_209 C_8 x8 (u_7.1)))
  else
    if x2 = 1 then
      bd (pL_exclude C x3 x4) (fun u_5 =>
      ltv (mg u_5.2 C) (fun C_6 =>
      pL_isRule_209 C_6 x8 (u_5.1)))
    else
      bd (pL_any C x3 x4 x5) (fun u_3 =>
      ltv (mg u_3.2 C) (fun C_4 =>
      pL_isRule_209 C_4 x8 (u_3.1)))

def pL_isRule_144_b (k144 : St → Int32 → Int32 → Int32 → Int32 → Int32 → Int32 → Option (Int32 × St)) (C : St) (x2 : Int32) (x3 : Int32) (x4 : Int32) (x5 : Int32) (x8 : Int32) (x9 : Int32) : Option (Int32 × St) :=
  if 250 ≤ x9 then
    pL_isRule_171 C x2 x3 x4 x5 x8
  else
    if x8 < 0 then
      pL_isRule_171 C x2 x3 x4 x5 x8
    else
      gd (ix x9 250) (
      gd (ix x9 250) (
      ltv (sA C 14 x9.toNatClampNeg (C.2 15 x9.toNatClampNeg)) (fun C_9 =>
      ltv (x9 + 1) (fun v_10 =>
      k144 C_9 x2 x3 x4 x5 x8 v_10))))

def pL_isRule_144 : Nat → St → Int32 → Int32 → Int32 → Int32 → Int32 → Int32 → Option (Int32 × St)
  | 0 => fun _ _ _ _ _ _ _ => none
  | n + 1 => fun C x2 x3 x4 x5 x8 x9 => pL_isRule_144_b (pL_isRule_144 n) C x2 x3 x4 x5 x8 x9

def pL_isRule_139 (C : St) (x2 : Int32) (x3 : Int32) (x4 : Int32) (x5 : Int32) (t0 : Int32) : Option (Int32 × St) :=
  pL_isRule_144 FU C x2 x3 x4 x5 t0 0

def pL_isRule_100 (C : St) (x2 : Int32) (x3 : Int32) (x4 : Int32) (x5 : Int32) (x6 : Int32) : Option (Int32 × St) :=
  if x6 = 0 then
    gd (ix 1 250) (
    if (C.2 14 (1 : Int32).toNatClampNeg) = 20 then
      pL_isRule_139 C x2 x3 x4 x5 (-900003)
    else
      bd (pL_isPossible (nx C)) (fun r_2 =>
      if r_2 = 0 then
        pL_isRule_139 C x2 x3 x4 x5 (-900004)
      else
        gd (ix 1 250) (
        pL_isRule_139 C x2 x3 x4 x5 (C.2 14 (1 : Int32).toNatClampNeg))))
  else
    pL_isRule_139 C x2 x3 x4 x5 (-900002)

def pL_isRule_29 (C : St) (x2 : Int32) (x3 : Int32) (x4 : Int32) (x5 : Int32) (t0 : Int32) : Option (Int32 × St) :=
  ltv (cp C) (fun C_1 =>
  if t0 = 0 then
    gd (ix 1 250) (
    if 20 ≤ (C_1.2 14 (1 : Int32).toNatClampNeg) then
      pL_isRule_100 C_1 x2 x3 x4 x5 t0
    else
      gd (ix 1 250) (
      ltv (110 + (5 * (C_1.2 14 (1 : Int32).toNatClampNeg))) (fun v_11 =>
      gd (ix v_11 250) (
      ltv (sA C_1 15 v_11.toNatClampNeg x2) (fun C_12 =>
      gd (ix (v_11 + 1) 250) (
      ltv (sA C_12 15 (v_11 + 1).toNatClampNeg x3) (fun C_13 =>
      gd (ix (v_11 + 2) 250) (
      ltv (sA C_13 15 (v_11 + 2).toNatClampNeg x4) (fun C_14 =>
      gd (ix (v_11 + 3) 250) (
      ltv (sA C_14 15 (v_11 + 3).toNatClampNeg x5) (fun C_15 =>
      gd (ix 1 250) (
      gd (ix 1 250) (
      ltv (sA C_15 15 (1 : Int32).toNatClampNeg ((C_15.2 15 (1 : Int32).toNatClampNeg) + 1)) (fun C_16 =>
      pL_isRule_100 C_16 x2 x3 x4 x5 t0))))))))))))))
  else
    pL_isRule_100 C_1 x2 x3 x4 x5 t0)

def pL_isRule_24 (C : St) (x2 : Int32) (x3 : Int32) (x4 : Int32) (x5 : Int32) : Option (Int32 × St) :=
  pL_isRule_29 C x2 x3 x4 x5 1

def pL_isRule_28 (C : St) (x2 : Int32) (x3 : Int32) (x4 : Int32) (x5 : Int32) : Option (Int32 × St) :=
  pL_isRule_29 C x2 x3 x4 x5 0

def pL_isRule (C : St) (x2 : Int32) (x3 : Int32) (x4 : Int32) (x5 : Int32) : Option (Int32 × St) :=
  if x3 = x4 then
    pL_isRule_24 C x2 x3 x4 x5
  else
    if x2 = 2 then
      if x3 = x5 then
        pL_isRule_24 C x2 x3 x4 x5
      else
        if x4 = x5 then
          pL_isRule_24 C x2 x3 x4 x5
        else
          pL_isRule_28 C x2 x3 x4 x5
    else
      pL_isRule_28 C x2 x3 x4 x5

def pL_isLifted_38 (C : St) (t0 : Int32) (t1 : Int32) : Option (Int32 × St) :=
  if t0 = t1 then
    some (1, C)
  else
    some (0, C)

def pL_isLifted_19 (C : St) (x2 : Int32) : Option (Int32 × St) :=
  bd (pL_lift C x2) (fun u_1 =>
  ltv (mg u_1.2 C) (fun C_2 =>
  gd (ix 1 250) (
  if x2 < (C_2.2 14 (1 : Int32).toNatClampNeg) then
    pL_isLifted_38 C_2 (u_1.1) (-900002)
  else
    pL_isLifted_38 C_2 (u_1.1) (-900001))))

def pL_isLifted_61_b (k61 : St → Int32 → Int32 → Int32 → Option (Int32 × St)) (C : St) (x2 : Int32) (x3 : Int32) (x4 : Int32) : Option (Int32 × St) :=
  gd (ix 1 250) (
  if (C.2 14 (1 : Int32).toNatClampNeg) ≤ x4 then
    bd (pL_lift C x2) (fun u_4 =>
    ltv (mg u_4.2 C) (fun C_5 =>
    if (u_4.1) = x3 then
      some (1, C_5)
    else
      some (0, C_5)))
  else
    gd (ix (114 + (5 * x4)) 250) (
    ltv (x3 + (1 - (C.2 14 (114 + (5 * x4)).toNatClampNeg))) (fun v_6 =>
    ltv (x4 + 1) (fun v_7 =>
    k61 C x2 v_6 v_7))))

def pL_isLifted_61 : Nat → St → Int32 → Int32 → Int32 → Option (Int32 × St)
  | 0 => fun _ _ _ _ => none
  | n + 1 => fun C x2 x3 x4 => pL_isLifted_61_b (pL_isLifted_61 n) C x2 x3 x4

def pL_isLifted (C : St) (x2 : Int32) : Option (Int32 × St) :=
  gd (ix 1 250) (
  if (C.2 14 (1 : Int32).toNatClampNeg) ≤ x2 then
    pL_isLifted_19 C x2
  else
    gd (ix (114 + (5 * x2)) 250) (
    if (C.2 14 (114 + (5 * x2)).toNatClampNeg) = 1 then
      pL_isLifted_19 C x2
    else
      gd (ix (114 + (5 * x2)) 250) (
      ltv (sA C 14 (114 + (5 * x2)).toNatClampNeg 1) (fun C_3 =>
      pL_isLifted_61 FU C_3 x2 0 0))))

def pL_isDecided_104 (C : St) (x5 : Int32) (t0 : Int32) : Option (Int32 × St) :=
  if 0 ≤ x5 then
    bd (pX6_unknown C) (fun u_7 =>
    ltv (mg u_7.2 C) (fun C_8 =>
    if t0 = (u_7.1) then
      some (1, C_8)
    else
      some (0, C_8)))
  else
    if t0 = x5 then
      some (1, C)
    else
      some (0, C)

def pL_isDecided_87 (C : St) (x2 : Int32) (x3 : Int32) (x5 : Int32) : Option (Int32 × St) :=
  if x3 = 0 then
    bd (pL_refuse C x2) (fun u_5 =>
    ltv (mg u_5.2 C) (fun C_6 =>
    pL_isDecided_104 C_6 x5 (u_5.1)))
  else
    bd (pL_choose C x2) (fun u_9 =>
    ltv (mg u_9.2 C) (fun C_10 =>
    pL_isDecided_104 C_10 x5 (u_9.1)))

def pL_isDecided_66 (C : St) (x2 : Int32) (x3 : Int32) (t0 : Int32) : Option (Int32 × St) :=
  if t0 = 0 then
    gd (ix 3 250) (
    gd (ix 3 250) (
    ltv (sA C 14 (3 : Int32).toNatClampNeg (C.2 15 (3 : Int32).toNatClampNeg)) (fun C_11 =>
    gd (ix 4 250) (
    gd (ix 4 250) (
    ltv (sA C_11 14 (4 : Int32).toNatClampNeg (C_11.2 15 (4 : Int32).toNatClampNeg)) (fun C_12 =>
    pL_isDecided_87 C_12 x2 x3 t0))))))
  else
    pL_isDecided_87 C x2 x3 t0

def pL_isDecided_17 (C : St) (x2 : Int32) (x3 : Int32) (t1 : Int32) : Option (Int32 × St) :=
  gd (ix t1 250) (
  gd (ix t1 250) (
  ltv (sA C 15 t1.toNatClampNeg ((C.2 15 t1.toNatClampNeg) ||| ((1 : Int32) <<< (x2 &&& 31)))) (fun C_2 =>
  if x2 = 0 then
    pL_isDecided_66 C_2 x2 x3 (-900002)
  else
    gd (ix 3 250) (
    gd (ix 4 250) (
    bd (pL_isIn ((C_2.2 14 (3 : Int32).toNatClampNeg) ||| (C_2.2 14 (4 : Int32).toNatClampNeg)) x2) (fun r_3 =>
    if r_3 = 0 then
      bd (pL_isPossible (nx C_2)) (fun r_4 =>
      if r_4 = 0 then
        pL_isDecided_66 C_2 x2 x3 (-900004)
      else
        pL_isDecided_66 C_2 x2 x3 0)
    else
      pL_isDecided_66 C_2 x2 x3 (-900003)))))))

def pL_isDecided (C : St) (x2 : Int32) (x3 : Int32) : Option (Int32 × St) :=
  ltv (cp C) (fun C_1 =>
  if x3 = 0 then
    pL_isDecided_17 C_1 x2 x3 4
  else
    pL_isDecided_17 C_1 x2 x3 3)

def pL_isRetracted_76 (C : St) (t0 : Int32) (t1 : Int32) : Option (Int32 × St) :=
  if t0 = t1 then
    some (1, C)
  else
    some (0, C)

def pL_isRetracted_38 (C : St) (x2 : Int32) (x3 : Int32) : Option (Int32 × St) :=
  gd (ix 3 250) (
  gd (ix 3 250) (
  ltv (sA C 14 (3 : Int32).toNatClampNeg ((C.2 14 (3 : Int32).toNatClampNeg) &&& (((1 : Int32) <<< (x2 &&& 31)) ^^^ (-1)))) (fun C_2 =>
  gd (ix 4 250) (
  gd (ix 4 250) (
  ltv (sA C_2 14 (4 : Int32).toNatClampNeg ((C_2.2 14 (4 : Int32).toNatClampNeg) &&& (((1 : Int32) <<< (x2 &&& 31)) ^^^ (-1)))) (fun C_3 =>
  bd (pL_retract C_3 x2) (fun u_4 =>
  ltv (mg u_4.2 C_3) (fun C_5 =>
  if x3 = 0 then
    pL_isRetracted_76 C_5 (u_4.1) 114
  else
    pL_isRetracted_76 C_5 (u_4.1) 99))))))))

def pL_isRetracted (C : St) (x2 : Int32) : Option (Int32 × St) :=
  gd (ix 3 250) (
  bd (pL_isIn (C.2 14 (3 : Int32).toNatClampNeg) x2) (fun r_1 =>
  if r_1 = 0 then
    gd (ix 4 250) (
    bd (pL_isIn (C.2 14 (4 : Int32).toNatClampNeg) x2) (fun r_6 =>
    if r_6 = 0 then
      bd (pL_retract C x2) (fun u_7 =>
      ltv (mg u_7.2 C) (fun C_8 =>
      if (u_7.1) = (-900002) then
        some (1, C_8)
      else
        some (0, C_8)))
    else
      pL_isRetracted_38 C x2 r_1))
  else
    pL_isRetracted_38 C x2 r_1))

def pL_isDone_158 (T : SC) (C : St) (t2 : Int32) (t3 : Int32) : Option (Int32 × St) :=
  bd (pL_isMandatory C t2 t3) (fun u_11 =>
  gd (okZ (u_11.1)) (
  some (u_11.1, u_11.2)))

def pL_isDone_228 (T : SC) (C : St) (t2 : Int32) (t3 : Int32) : Option (Int32 × St) :=
  bd (pL_isDecided C t2 t3) (fun u_24 =>
  gd (okZ (u_24.1)) (
  some (u_24.1, u_24.2)))

def pL_isDone (T : SC) (C : St) (x3 : Int32) : Option (Int32 × St) :=
  gd (ix 0 250) (
  bd (pL_in T (x3 + 1) (C.2 14 (0 : Int32).toNatClampNeg)) (fun r_1 =>
  gd (ix 0 250) (
  bd (pL_in T (x3 + 2) (C.2 14 (0 : Int32).toNatClampNeg)) (fun r_2 =>
  bd (pL_in T x3 16) (fun r_3 =>
  if r_3 = 0 then
    bd (pL_isFeature T C (x3 + 1)) (fun u_4 =>
    gd (okZ (u_4.1)) (
    some (u_4.1, u_4.2)))
  else
    if r_3 = 1 then
      bd (pL_isFeature T C (x3 + 1)) (fun u_5 =>
      gd (okZ (u_5.1)) (
      some (u_5.1, u_5.2)))
    else
      if r_3 = 2 then
        bd (pL_isFeature T C (x3 + 1)) (fun u_6 =>
        gd (okZ (u_6.1)) (
        some (u_6.1, u_6.2)))
      else
        if r_3 = 3 then
          bd (pL_in T (x3 + 2) 3) (fun r_7 =>
          bd (pL_in T (x3 + 3) 4) (fun r_8 =>
          bd (pL_isGroup C r_1 r_7 r_8) (fun u_9 =>
          gd (okZ (u_9.1)) (
          some (u_9.1, u_9.2)))))
        else
          if r_3 = 4 then
            bd (pL_in T (x3 + 2) 3) (fun r_10 =>
            if r_10 ≤ 0 then
              pL_isDone_158 T C r_1 0
            else
              pL_isDone_158 T C r_1 1)
          else
            if r_3 = 5 then
              bd (pL_in T (x3 + 4) 3) (fun r_12 =>
              gd (ix 0 250) (
              bd (pL_in T (x3 + 3) (C.2 14 (0 : Int32).toNatClampNeg)) (fun r_13 =>
              bd (pL_isRule C r_12 r_1 r_2 r_13) (fun u_14 =>
              gd (okZ (u_14.1)) (
              some (u_14.1, u_14.2))))))
            else
              if r_3 = 6 then
                bd (pL_in T (x3 + 4) 3) (fun r_15 =>
                gd (ix 0 250) (
                bd (pL_in T (x3 + 3) (C.2 14 (0 : Int32).toNatClampNeg)) (fun r_16 =>
                bd (pL_isRule C r_15 r_1 r_2 r_16) (fun u_17 =>
                gd (okZ (u_17.1)) (
                some (u_17.1, u_17.2))))))
              else
                if r_3 = 7 then
                  bd (pL_in T (x3 + 4) 3) (fun r_18 =>
                  gd (ix 0 250) (
                  bd (pL_in T (x3 + 3) (C.2 14 (0 : Int32).toNatClampNeg)) (fun r_19 =>
                  bd (pL_isRule C r_18 r_1 r_2 r_19) (fun u_20 =>
                  gd (okZ (u_20.1)) (
                  some (u_20.1, u_20.2))))))
                else
                  if r_3 = 8 then
                    gd (ix 1 250) (
                    bd (pL_in T (x3 + 1) ((C.2 14 (1 : Int32).toNatClampNeg) + 1)) (fun r_21 =>
                    bd (pL_isLifted C r_21) (fun u_22 =>
                    gd (okZ (u_22.1)) (
                    some (u_22.1, u_22.2)))))
                  else
                    if r_3 = 9 then
                      bd (pL_in T (x3 + 3) 2) (fun r_23 =>
                      if r_23 = 0 then
                        pL_isDone_228 T C r_1 1
                      else
                        pL_isDone_228 T C r_1 0)
                    else
                      if r_3 = 10 then
                        bd (pL_in T (x3 + 3) 2) (fun r_25 =>
                        if r_25 = 0 then
                          pL_isDone_228 T C r_1 1
                        else
                          pL_isDone_228 T C r_1 0)
                      else
                        if r_3 = 11 then
                          bd (pL_in T (x3 + 3) 2) (fun r_26 =>
                          if r_26 = 0 then
                            pL_isDone_228 T C r_1 1
                          else
                            pL_isDone_228 T C r_1 0)
                        else
                          if r_3 = 12 then
                            bd (pL_in T (x3 + 3) 2) (fun r_27 =>
                            if r_27 = 0 then
                              pL_isDone_228 T C r_1 1
                            else
                              pL_isDone_228 T C r_1 0)
                          else
                            if r_3 = 13 then
                              bd (pL_isRetracted C r_1) (fun u_28 =>
                              gd (okZ (u_28.1)) (
                              some (u_28.1, u_28.2)))
                            else
                              if r_3 = 14 then
                                bd (pL_isRetracted C r_1) (fun u_29 =>
                                gd (okZ (u_29.1)) (
                                some (u_29.1, u_29.2)))
                              else
                                gd (ix 3 250) (
                                gd (ix 4 250) (
                                bd (pL_many ((C.2 14 (3 : Int32).toNatClampNeg) ||| (C.2 14 (4 : Int32).toNatClampNeg))) (fun r_30 =>
                                gd (ix 3 250) (
                                ltv (sA C 14 (3 : Int32).toNatClampNeg 0) (fun C_31 =>
                                gd (ix 4 250) (
                                ltv (sA C_31 14 (4 : Int32).toNatClampNeg 0) (fun C_32 =>
                                bd (pX6_retractAll C_32) (fun u_33 =>
                                ltv (mg u_33.2 C_32) (fun C_34 =>
                                if (u_33.1) = r_30 then
                                  some (1, C_34)
                                else
                                  some (0, C_34)))))))))))))))

def pL_areStates_136 (k65 : St → Int32 → Int64 → Int32 → Int32 → Option (Int32)) (C : St) (x2 : Int32) (x3 : Int64) (x5 : Int32) (x6 : Int32) (t0 : Int32) : Option (Int32) :=
  bd (pnL_stateOf C x6) (fun r_7 =>
  if r_7 = t0 then
    bd (pnL_stateByAll C x6) (fun r_8 =>
    if r_8 = t0 then
      ltv (x6 + 1) (fun v_9 =>
      k65 C x2 x3 x5 v_9)
    else
      some 0)
  else
    some 0)

def pL_areStates_65_b (k65 : St → Int32 → Int64 → Int32 → Int32 → Option (Int32)) (C : St) (x2 : Int32) (x3 : Int64) (x5 : Int32) (x6 : Int32) : Option (Int32) :=
  gd (ix 0 250) (
  if (C.2 14 (0 : Int32).toNatClampNeg) ≤ x6 then
    if (lg_cmp x3 0) ≤ 0 then
      some 0
    else
      bd (pX6_completions C) (fun r_1 =>
      if (lg_cmp r_1 x3) = 0 then
        bd (pX6_completionsByAll C) (fun r_2 =>
        if (lg_cmp r_2 x3) = 0 then
          some 1
        else
          some 0)
      else
        some 0)
  else
    gd (ix 3 250) (
    bd (pL_isIn (C.2 14 (3 : Int32).toNatClampNeg) x6) (fun r_3 =>
    if r_3 = 0 then
      gd (ix 4 250) (
      bd (pL_isIn (C.2 14 (4 : Int32).toNatClampNeg) x6) (fun r_4 =>
      if r_4 = 0 then
        bd (pL_isIn x2 x6) (fun r_5 =>
        if r_5 = 0 then
          bd (pL_isIn x5 x6) (fun r_6 =>
          if r_6 = 0 then
            pL_areStates_136 k65 C x2 x3 x5 x6 120
          else
            pL_areStates_136 k65 C x2 x3 x5 x6 111)
        else
          pL_areStates_136 k65 C x2 x3 x5 x6 97)
      else
        pL_areStates_136 k65 C x2 x3 x5 x6 114))
    else
      pL_areStates_136 k65 C x2 x3 x5 x6 99)))

def pL_areStates_65 : Nat → St → Int32 → Int64 → Int32 → Int32 → Option (Int32)
  | 0 => fun _ _ _ _ _ => none
  | n + 1 => fun C x2 x3 x5 x6 => pL_areStates_65_b (pL_areStates_65 n) C x2 x3 x5 x6

def pL_areStates_56 (k10 : St → Int32 → Int64 → Int32 → Int32 → Option (Int32)) (C : St) (x2 : Int32) (x3 : Int64) (x5 : Int32) (x6 : Int32) : Option (Int32) :=
  ltv (x6 + 1) (fun v_11 =>
  k10 C x2 x3 x5 v_11)

def pL_areStates_48 (k10 : St → Int32 → Int64 → Int32 → Int32 → Option (Int32)) (C : St) (x3 : Int64) (x5 : Int32) (x6 : Int32) (t0 : Int32) : Option (Int32) :=
  ltv (x5 ||| x6) (fun v_13 =>
  pL_areStates_56 k10 C t0 x3 v_13 x6)

def pL_areStates_10_b (k10 : St → Int32 → Int64 → Int32 → Int32 → Option (Int32)) (C : St) (x2 : Int32) (x3 : Int64) (x5 : Int32) (x6 : Int32) : Option (Int32) :=
  gd (ix 0 250) (
  if ((1 : Int32) <<< ((C.2 14 (0 : Int32).toNatClampNeg) &&& 31)) ≤ x6 then
    pL_areStates_65 FU C x2 x3 x5 0
  else
    bd (pL_completes C x6) (fun r_10 =>
    if r_10 = 0 then
      pL_areStates_56 k10 C x2 x3 x5 x6
    else
      ltv (x3 + 1) (fun v_12 =>
      if (lg_cmp v_12 1) = 0 then
        pL_areStates_48 k10 C v_12 x5 x6 x6
      else
        pL_areStates_48 k10 C v_12 x5 x6 (x2 &&& x6))))

def pL_areStates_10 : Nat → St → Int32 → Int64 → Int32 → Int32 → Option (Int32)
  | 0 => fun _ _ _ _ _ => none
  | n + 1 => fun C x2 x3 x5 x6 => pL_areStates_10_b (pL_areStates_10 n) C x2 x3 x5 x6

def pL_areStates (C : St) : Option (Int32) :=
  pL_areStates_10 FU C 0 0 0 0
