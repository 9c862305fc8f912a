/-! the methods as functions of the memory (laid by wip/whole/lay.py out of the bytecode listing) -/
def f_X7_copyFrom_L123 (j0 : Nat) (j1 : Nat) : Nat → fw_M → Int32 → Option (fw_M × Unit)
  | 0, _, _ => none
  | n + 1, μ, x2 =>
    if (4 : Int32) ≤ x2 then
      fw_l (fw_u μ j0 0 9 (μ j1 0 9)) (fun μ14 =>
      some (μ14, ()))
    else
      fw_g (fw_in x2 4) (
      fw_l (fw_u μ j0 8 x2.toNatClampNeg ((μ j1 8 x2.toNatClampNeg).toUInt32).toInt32) (fun μ16 =>
      f_X7_copyFrom_L123 j0 j1 n μ16 (x2 + (1 : Int32))))
def f_X7_copyFrom_L98 (j0 : Nat) (j1 : Nat) : Nat → fw_M → Int32 → Option (fw_M × Unit)
  | 0, _, _ => none
  | n + 1, μ, x2 =>
    if (2 : Int32) ≤ x2 then
      f_X7_copyFrom_L123 j0 j1 1000 μ (0 : Int32)
    else
      fw_g (fw_in x2 2) (
      fw_l (fw_u μ j0 7 x2.toNatClampNeg (μ j1 7 x2.toNatClampNeg)) (fun μ12 =>
      f_X7_copyFrom_L98 j0 j1 n μ12 (x2 + (1 : Int32))))
def f_X7_copyFrom_L2 (j0 : Nat) (j1 : Nat) : Nat → fw_M → Int32 → Option (fw_M × Unit)
  | 0, _, _ => none
  | n + 1, μ, x2 =>
    if (μ j1 0 6) ≤ x2 then
      fw_l (fw_u μ j0 0 6 (μ j1 0 6)) (fun μ2 =>
      f_X7_copyFrom_L98 j0 j1 1000 μ2 (0 : Int32))
    else
      fw_g (fw_in x2 16) (
      fw_l (fw_u μ j0 1 x2.toNatClampNeg (μ j1 1 x2.toNatClampNeg)) (fun μ4 =>
      fw_l (fw_u μ4 j0 2 x2.toNatClampNeg (vp_nar .boolean (μ4 j1 2 x2.toNatClampNeg))) (fun μ5 =>
      fw_l (fw_u μ5 j0 3 x2.toNatClampNeg (μ5 j1 3 x2.toNatClampNeg)) (fun μ6 =>
      fw_l (fw_u μ6 j0 4 x2.toNatClampNeg (μ6 j1 4 x2.toNatClampNeg)) (fun μ7 =>
      fw_l (fw_u μ7 j0 5 x2.toNatClampNeg (μ7 j1 5 x2.toNatClampNeg)) (fun μ8 =>
      fw_l (fw_u μ8 j0 6 x2.toNatClampNeg (μ8 j1 6 x2.toNatClampNeg)) (fun μ9 =>
      f_X7_copyFrom_L2 j0 j1 n μ9 (x2 + (1 : Int32)))))))))
def f_X7_copyFrom (μ : fw_M) (j0 : Nat) (j1 : Nat) : Option (fw_M × Unit) :=
  f_X7_copyFrom_L2 j0 j1 1000 μ (0 : Int32)
def f_X7_isGarment (μ : fw_M) (j0 : Nat) (x1 : Int32) : Option Int32 :=
  if x1 < 0 then
    some (0 : Int32)
  else
    if (μ j0 0 6) ≤ x1 then
      some (0 : Int32)
    else
      some (1 : Int32)
def f_X9_isClient (μ : fw_M) (x0 : Int32) : Option Int32 :=
  if x0 < 0 then
    some (0 : Int32)
  else
    if (4 : Int32) ≤ x0 then
      some (0 : Int32)
    else
      some (1 : Int32)
def f_X7_faultOfBringing (μ : fw_M) (j0 : Nat) (x1 : Int32) (x2 : Int32) (x3 : Int32) : Option Int32 :=
  fw_b1 (f_X9_isClient μ x1) (fun r1 =>
  if r1 = 0 then
    some (1 : Int32)
  else
    if x2 < 0 then
      some (2 : Int32)
    else
      if (8 : Int32) ≤ x2 then
        some (2 : Int32)
      else
        if x3 < 0 then
          some (2 : Int32)
        else
          if x3 ≤ (255 : Int32) then
            if (μ j0 0 6) < (16 : Int32) then
              some (0 : Int32)
            else
              some (4 : Int32)
          else
            some (2 : Int32))
def f_X9_isMachine (μ : fw_M) (x0 : Int32) : Option Int32 :=
  if x0 < 0 then
    some (0 : Int32)
  else
    if (2 : Int32) ≤ x0 then
      some (0 : Int32)
    else
      some (1 : Int32)
def f_X7_garmentsAt_L4 (μ : fw_M) (j0 : Nat) : Nat → Int32 → Int32 → Int32 → Option Int32
  | 0, _, _, _ => none
  | n + 1, x1, x2, x3 =>
    if (μ j0 0 6) ≤ x3 then
      some x2
    else
      fw_g (fw_in x3 16) (
      if (μ j0 5 x3.toNatClampNeg) = x1 then
        f_X7_garmentsAt_L4 μ j0 n x1 (x2 ||| ((1 : Int32) <<< (x3 &&& (31 : Int32)))) (x3 + (1 : Int32))
      else
        f_X7_garmentsAt_L4 μ j0 n x1 x2 (x3 + (1 : Int32)))
def f_X7_garmentsAt (μ : fw_M) (j0 : Nat) (x1 : Int32) : Option Int32 :=
  f_X7_garmentsAt_L4 μ j0 1000 x1 (0 : Int32) (0 : Int32)
def f_J6_bitCount_0f7a4 (μ : fw_M) (x0 : Int32) : Option Int32 :=
  fw_l ((((x0 - ((x0.toUInt32 >>> ((1 : Int32).toUInt32 &&& Int32.toUInt32 31)).toInt32 &&& (1431655765 : Int32))) &&& (858993459 : Int32)) + (((x0 - ((x0.toUInt32 >>> ((1 : Int32).toUInt32 &&& Int32.toUInt32 31)).toInt32 &&& (1431655765 : Int32))).toUInt32 >>> ((2 : Int32).toUInt32 &&& Int32.toUInt32 31)).toInt32 &&& (858993459 : Int32)))) (fun y1 =>
  fw_l ((((y1 + (y1.toUInt32 >>> ((4 : Int32).toUInt32 &&& Int32.toUInt32 31)).toInt32) &&& (252645135 : Int32)) + (((y1 + (y1.toUInt32 >>> ((4 : Int32).toUInt32 &&& Int32.toUInt32 31)).toInt32) &&& (252645135 : Int32)).toUInt32 >>> ((8 : Int32).toUInt32 &&& Int32.toUInt32 31)).toInt32)) (fun y2 =>
  some ((y2 + (y2.toUInt32 >>> ((16 : Int32).toUInt32 &&& Int32.toUInt32 31)).toInt32) &&& (63 : Int32))))
def f_X7_countIn (μ : fw_M) (j0 : Nat) (x1 : Int32) : Option Int32 :=
  fw_b1 (f_X7_garmentsAt μ j0 ((1 : Int32) + x1)) (fun r1 =>
  fw_b1 (f_J6_bitCount_0f7a4 μ r1) (fun r2 =>
  some r2))
def f_X7_faultOfLoading (μ : fw_M) (j0 : Nat) (x1 : Int32) (x2 : Int32) : Option Int32 :=
  fw_b1 (f_X7_isGarment μ j0 x1) (fun r1 =>
  if r1 = 0 then
    some (1 : Int32)
  else
    fw_b1 (f_X9_isMachine μ x2) (fun r3 =>
    if r3 = 0 then
      some (1 : Int32)
    else
      fw_g (fw_in x1 16) (
      if (μ j0 5 x1.toNatClampNeg) = 0 then
        fw_b1 (f_X7_countIn μ j0 x2) (fun r7 =>
        if r7 < (5 : Int32) then
          some (0 : Int32)
        else
          some (4 : Int32))
      else
        some (3 : Int32))))
def f_X7_faultOfTakingOut (μ : fw_M) (j0 : Nat) (x1 : Int32) : Option Int32 :=
  fw_b1 (f_X7_isGarment μ j0 x1) (fun r1 =>
  if r1 = 0 then
    some (1 : Int32)
  else
    fw_g (fw_in x1 16) (
    if (μ j0 5 x1.toNatClampNeg) = 0 then
      some (3 : Int32)
    else
      if (μ j0 5 x1.toNatClampNeg) = (3 : Int32) then
        some (3 : Int32)
      else
        some (0 : Int32)))
def f_X7_faultOfHeating (μ : fw_M) (j0 : Nat) (x1 : Int32) (x2 : Int32) : Option Int32 :=
  fw_b1 (f_X9_isMachine μ x1) (fun r1 =>
  if r1 = 0 then
    some (1 : Int32)
  else
    if x2 < (40 : Int32) then
      some (2 : Int32)
    else
      if (180 : Int32) < x2 then
        some (2 : Int32)
      else
        some (0 : Int32))
def f_X7_faultOfRunning (μ : fw_M) (j0 : Nat) (x1 : Int32) : Option Int32 :=
  fw_b1 (f_X9_isMachine μ x1) (fun r1 =>
  if r1 = 0 then
    some (1 : Int32)
  else
    fw_b1 (f_X7_countIn μ j0 x1) (fun r3 =>
    if r3 = 0 then
      some (4 : Int32)
    else
      some (0 : Int32)))
def f_X7_addGarment (μ : fw_M) (j0 : Nat) (x1 : Int32) (x2 : Int32) (x3 : Int32) (x4 : Int32) : Option (fw_M × Int32) :=
  fw_g (fw_in (μ j0 0 6) 16) (
  fw_l (fw_u μ j0 1 (μ j0 0 6).toNatClampNeg x1) (fun μ2 =>
  fw_l (fw_u μ2 j0 2 (μ j0 0 6).toNatClampNeg (vp_nar .boolean x2)) (fun μ3 =>
  fw_l (fw_u μ3 j0 3 (μ j0 0 6).toNatClampNeg x3) (fun μ4 =>
  fw_l (fw_u μ4 j0 4 (μ j0 0 6).toNatClampNeg x4) (fun μ5 =>
  fw_l (fw_u μ5 j0 5 (μ j0 0 6).toNatClampNeg (0 : Int32)) (fun μ6 =>
  fw_l (fw_u μ6 j0 6 (μ j0 0 6).toNatClampNeg (0 : Int32)) (fun μ7 =>
  fw_l (fw_u μ7 j0 0 6 ((μ7 j0 0 6) + (1 : Int32))) (fun μ8 =>
  some (μ8, (μ j0 0 6))))))))))
def f_X7_putIntoMachine (μ : fw_M) (j0 : Nat) (x1 : Int32) (x2 : Int32) : Option (fw_M × Unit) :=
  fw_g (fw_in x1 16) (
  fw_l (fw_u μ j0 5 x1.toNatClampNeg ((1 : Int32) + x2)) (fun μ2 =>
  some (μ2, ())))
def f_X7_putBackIntoBag (μ : fw_M) (j0 : Nat) (x1 : Int32) : Option (fw_M × Int32) :=
  fw_g (fw_in x1 16) (
  fw_l (fw_u μ j0 5 x1.toNatClampNeg (0 : Int32)) (fun μ2 =>
  some (μ2, ((μ j0 5 x1.toNatClampNeg) - (1 : Int32)))))
def f_X7_degrees (μ : fw_M) (j0 : Nat) (x1 : Int32) : Option UInt32 :=
  fw_g (fw_in x1 2) (
  fw_g (fw_f32 (FP.fdiv (FP.i2f (μ j0 7 x1.toNatClampNeg)) FP.fconst2)) (
  some (FP.fdiv (FP.i2f (μ j0 7 x1.toNatClampNeg)) FP.fconst2)))
def f_X7_stainsOn (μ : fw_M) (j0 : Nat) (x1 : Int32) : Option Int32 :=
  fw_g (fw_in x1 16) (
  fw_b1 (f_J6_bitCount_0f7a4 μ (μ j0 4 x1.toNatClampNeg)) (fun r2 =>
  some r2))
def f_X7_isInBagOf (μ : fw_M) (j0 : Nat) (x1 : Int32) (x2 : Int32) : Option Int32 :=
  fw_g (fw_in x1 16) (
  if (μ j0 5 x1.toNatClampNeg) = 0 then
    if (μ j0 1 x1.toNatClampNeg) = x2 then
      some (1 : Int32)
    else
      some (0 : Int32)
  else
    some (0 : Int32))
def f_X7_isIn (μ : fw_M) (j0 : Nat) (x1 : Int32) (x2 : Int32) : Option Int32 :=
  fw_g (fw_in x1 16) (
  if (μ j0 5 x1.toNatClampNeg) = ((1 : Int32) + x2) then
    some (1 : Int32)
  else
    some (0 : Int32))
def f_X7_garmentsInBag_L4 (μ : fw_M) (j0 : Nat) : Nat → Int32 → Int32 → Int32 → Option Int32
  | 0, _, _, _ => none
  | n + 1, x1, x2, x3 =>
    if (μ j0 0 6) ≤ x3 then
      some x2
    else
      fw_b1 (f_X7_isInBagOf μ j0 x3 x1) (fun r2 =>
      if r2 = 0 then
        f_X7_garmentsInBag_L4 μ j0 n x1 x2 (x3 + (1 : Int32))
      else
        f_X7_garmentsInBag_L4 μ j0 n x1 (x2 ||| ((1 : Int32) <<< (x3 &&& (31 : Int32)))) (x3 + (1 : Int32)))
def f_X7_garmentsInBag (μ : fw_M) (j0 : Nat) (x1 : Int32) : Option Int32 :=
  f_X7_garmentsInBag_L4 μ j0 1000 x1 (0 : Int32) (0 : Int32)
def f_X7_stainsOfAllIn_L6 (μ : fw_M) (j0 : Nat) : Nat → Int32 → Int32 → Int32 → Option Int32
  | 0, _, _, _ => none
  | n + 1, x1, x2, x3 =>
    if (μ j0 0 6) ≤ x3 then
      some x2
    else
      fw_b1 (f_X7_isIn μ j0 x3 x1) (fun r2 =>
      if r2 = 0 then
        f_X7_stainsOfAllIn_L6 μ j0 n x1 x2 (x3 + (1 : Int32))
      else
        fw_g (fw_in x3 16) (
        f_X7_stainsOfAllIn_L6 μ j0 n x1 (x2 &&& (μ j0 4 x3.toNatClampNeg)) (x3 + (1 : Int32))))
def f_X7_stainsOfAllIn (μ : fw_M) (j0 : Nat) (x1 : Int32) : Option Int32 :=
  f_X7_stainsOfAllIn_L6 μ j0 1000 x1 (255 : Int32) (0 : Int32)
def f_X7_coloursOfLoad_L4 (μ : fw_M) (j0 : Nat) : Nat → Int32 → Int32 → Int32 → Option Int32
  | 0, _, _, _ => none
  | n + 1, x1, x2, x3 =>
    if (μ j0 0 6) ≤ x3 then
      some x2
    else
      fw_b1 (f_X7_isIn μ j0 x3 x1) (fun r2 =>
      if r2 = 0 then
        f_X7_coloursOfLoad_L4 μ j0 n x1 x2 (x3 + (1 : Int32))
      else
        fw_g (fw_in x3 16) (
        f_X7_coloursOfLoad_L4 μ j0 n x1 (x2 ||| ((1 : Int32) <<< ((μ j0 3 x3.toNatClampNeg) &&& (31 : Int32)))) (x3 + (1 : Int32))))
def f_X7_coloursOfLoad (μ : fw_M) (j0 : Nat) (x1 : Int32) : Option Int32 :=
  f_X7_coloursOfLoad_L4 μ j0 1000 x1 (0 : Int32) (0 : Int32)
def f_X7_greatestColourIn_L4 (μ : fw_M) (j0 : Nat) : Nat → Int32 → Int32 → Int32 → Option Int32
  | 0, _, _, _ => none
  | n + 1, x1, x2, x3 =>
    if (μ j0 0 6) ≤ x3 then
      some x2
    else
      fw_b1 (f_X7_isIn μ j0 x3 x1) (fun r2 =>
      if r2 = 0 then
        f_X7_greatestColourIn_L4 μ j0 n x1 x2 (x3 + (1 : Int32))
      else
        fw_g (fw_in x3 16) (
        f_X7_greatestColourIn_L4 μ j0 n x1 (if x2 < (μ j0 3 x3.toNatClampNeg) then (μ j0 3 x3.toNatClampNeg) else x2) (x3 + (1 : Int32))))
def f_X7_greatestColourIn (μ : fw_M) (j0 : Nat) (x1 : Int32) : Option Int32 :=
  f_X7_greatestColourIn_L4 μ j0 1000 x1 (0 : Int32) (0 : Int32)
def f_X7_costOfRun_J44 (K8 : Int32 → Int32 → Int32 → Int32 → Int32 → Option UInt32) (μ : fw_M) (j0 : Nat) (x1 : Int32) (x2 : Int32) (x4 : Int32) (x5 : Int32) (s0 : Int32) (s1 : Int32) : Option UInt32 :=
  fw_g (fw_in x5 16) (
  K8 x1 x2 (s0 + s1) (x4 ||| ((1 : Int32) <<< ((μ j0 1 x5.toNatClampNeg) &&& (31 : Int32)))) (x5 + (1 : Int32)))
def f_X7_costOfRun_L8 (μ : fw_M) (j0 : Nat) : Nat → Int32 → Int32 → Int32 → Int32 → Int32 → Option UInt32
  | 0, _, _, _, _, _ => none
  | n + 1, x1, x2, x3, x4, x5 =>
    if (μ j0 0 6) ≤ x5 then
      fw_b1 (f_J6_bitCount_0f7a4 μ x4) (fun r2 =>
      if x3 = 0 then
        some FP.fconst0
      else
        if r2 = 0 then
          some FP.fconst0
        else
          fw_g (fw_f64 (FP.dmul (4608308318706860032 : UInt64) (FP.i2d x3))) (
          fw_g (fw_f32 (FP.d2f (FP.dmul (4608308318706860032 : UInt64) (FP.i2d x3)))) (
          fw_b1 (f_X7_degrees μ j0 x1) (fun r7 =>
          fw_g (fw_f64 (FP.f2d r7)) (
          fw_g (fw_f64 (FP.dmul (FP.f2d r7) (4593671619917905920 : UInt64))) (
          fw_g (fw_f64 (FP.ddiv (FP.dmul (FP.f2d r7) (4593671619917905920 : UInt64)) (FP.i2d r2))) (
          fw_g (fw_f32 (FP.d2f (FP.ddiv (FP.dmul (FP.f2d r7) (4593671619917905920 : UInt64)) (FP.i2d r2)))) (
          fw_g (fw_f32 (FP.fadd (FP.d2f (FP.dmul (4608308318706860032 : UInt64) (FP.i2d x3))) (FP.d2f (FP.ddiv (FP.dmul (FP.f2d r7) (4593671619917905920 : UInt64)) (FP.i2d r2))))) (
          some (FP.fadd (FP.d2f (FP.dmul (4608308318706860032 : UInt64) (FP.i2d x3))) (FP.d2f (FP.ddiv (FP.dmul (FP.f2d r7) (4593671619917905920 : UInt64)) (FP.i2d r2)))))))))))))
    else
      fw_b1 (f_X7_isIn μ j0 x5 x1) (fun r13 =>
      if r13 = 0 then
        f_X7_costOfRun_L8 μ j0 n x1 x2 x3 x4 (x5 + (1 : Int32))
      else
        fw_g (fw_in x5 16) (
        if (μ j0 1 x5.toNatClampNeg) = x2 then
          f_X7_costOfRun_J44 (f_X7_costOfRun_L8 μ j0 n) μ j0 x1 x2 x4 x5 x3 (1 : Int32)
        else
          f_X7_costOfRun_J44 (f_X7_costOfRun_L8 μ j0 n) μ j0 x1 x2 x4 x5 x3 (0 : Int32)))
def f_X7_costOfRun (μ : fw_M) (j0 : Nat) (x1 : Int32) (x2 : Int32) : Option UInt32 :=
  f_X7_costOfRun_L8 μ j0 1000 x1 x2 (0 : Int32) (0 : Int32) (0 : Int32)
def f_X7_charge_L2 (j0 : Nat) : Nat → fw_M → Int32 → Int32 → Option (fw_M × Unit)
  | 0, _, _, _ => none
  | n + 1, μ, x1, x2 =>
    if (4 : Int32) ≤ x2 then
      some (μ, ())
    else
      fw_g (fw_in x2 4) (
      fw_b1 (f_X7_costOfRun μ j0 x1 x2) (fun r3 =>
      fw_g (fw_f32 (FP.fadd (μ j0 8 x2.toNatClampNeg).toUInt32 r3)) (
      fw_l (fw_u μ j0 8 x2.toNatClampNeg (FP.fadd (μ j0 8 x2.toNatClampNeg).toUInt32 r3).toInt32) (fun μ5 =>
      f_X7_charge_L2 j0 n μ5 x1 (x2 + (1 : Int32))))))
def f_X7_charge (μ : fw_M) (j0 : Nat) (x1 : Int32) : Option (fw_M × Unit) :=
  f_X7_charge_L2 j0 1000 μ x1 (0 : Int32)
def f_X7_pack_J14 (μ : fw_M) (j0 : Nat) (x1 : Int32) (s0 : Int32) : Option Int64 :=
  fw_g (fw_in x1 16) (
  fw_l ((((((μ j0 4 x1.toNatClampNeg) ||| ((μ j0 3 x1.toNatClampNeg) <<< ((8 : Int32) &&& (31 : Int32)))) ||| ((μ j0 1 x1.toNatClampNeg) <<< ((11 : Int32) &&& (31 : Int32)))) ||| (s0 <<< ((13 : Int32) &&& (31 : Int32)))) ||| ((μ j0 5 x1.toNatClampNeg) <<< ((14 : Int32) &&& (31 : Int32))))) (fun y4 =>
  some (((μ j0 6 x1.toNatClampNeg).toInt64 <<< ((16 : Int32).toInt64 &&& (63 : Int64))) ||| y4.toInt64)))
def f_X7_pack (μ : fw_M) (j0 : Nat) (x1 : Int32) : Option Int64 :=
  fw_g (fw_in x1 16) (
  if (μ j0 2 x1.toNatClampNeg) = 0 then
    f_X7_pack_J14 μ j0 x1 (0 : Int32)
  else
    f_X7_pack_J14 μ j0 x1 (1 : Int32))
def f_X8_removedAt_L4 (μ : fw_M) : Nat → Int32 → Int32 → Int32 → Option Int32
  | 0, _, _, _ => none
  | n + 1, x0, x1, x2 =>
    if (8 : Int32) ≤ x2 then
      some x1
    else
      if x0 < ((50 : Int32) + ((10 : Int32) * x2)) then
        f_X8_removedAt_L4 μ n x0 x1 (x2 + (1 : Int32))
      else
        f_X8_removedAt_L4 μ n x0 (x1 ||| ((1 : Int32) <<< (x2 &&& (31 : Int32)))) (x2 + (1 : Int32))
def f_X8_removedAt (μ : fw_M) (x0 : Int32) : Option Int32 :=
  f_X8_removedAt_L4 μ 1000 x0 (0 : Int32) (0 : Int32)
def f_X8_removeStains_L12 (j0 : Nat) : Nat → fw_M → Int32 → Int32 → Int32 → Option (fw_M × Unit)
  | 0, _, _, _, _ => none
  | n + 1, μ, x1, x2, x3 =>
    if (μ j0 0 6) ≤ x3 then
      some (μ, ())
    else
      fw_b1 (f_X7_isIn μ j0 x3 x1) (fun r4 =>
      if r4 = 0 then
        f_X8_removeStains_L12 j0 n μ x1 x2 (x3 + (1 : Int32))
      else
        fw_g (fw_in x3 16) (
        fw_l (fw_u μ j0 4 x3.toNatClampNeg ((μ j0 4 x3.toNatClampNeg) &&& (x2 ^^^ (-1 : Int32)))) (fun μ7 =>
        f_X8_removeStains_L12 j0 n μ7 x1 x2 (x3 + (1 : Int32)))))
def f_X8_removeStains (μ : fw_M) (j0 : Nat) (x1 : Int32) : Option (fw_M × Unit) :=
  fw_g (fw_in x1 2) (
  fw_b1 (f_X8_removedAt μ (μ j0 7 x1.toNatClampNeg)) (fun r2 =>
  f_X8_removeStains_L12 j0 1000 μ x1 r2 (0 : Int32)))
def f_X8_letColoursRun_J73 (K26 : fw_M → Int32 → Int32 → Int32 → Int32 → Option (fw_M × Int32)) (j0 : Nat) (μ : fw_M) (x1 : Int32) (x2 : Int32) (x4 : Int32) (s0 : Int32) (s1 : Int32) : Option (fw_M × Int32) :=
  fw_g (fw_in x4 16) (
  fw_l (fw_u μ j0 4 x4.toNatClampNeg ((μ j0 4 x4.toNatClampNeg) ||| x2)) (fun μ11 =>
  K26 μ11 x1 x2 (s0 + s1) (x4 + (1 : Int32))))
def f_X8_letColoursRun_L26 (j0 : Nat) : Nat → fw_M → Int32 → Int32 → Int32 → Int32 → Option (fw_M × Int32)
  | 0, _, _, _, _, _ => none
  | n + 1, μ, x1, x2, x3, x4 =>
    if (μ j0 0 6) ≤ x4 then
      some (μ, x3)
    else
      fw_b1 (f_X7_isIn μ j0 x4 x1) (fun r5 =>
      if r5 = 0 then
        f_X8_letColoursRun_L26 j0 n μ x1 x2 x3 (x4 + (1 : Int32))
      else
        fw_g (fw_in x4 16) (
        if (μ j0 3 x4.toNatClampNeg) = 0 then
          if ((μ j0 4 x4.toNatClampNeg) &&& x2) = 0 then
            f_X8_letColoursRun_J73 (f_X8_letColoursRun_L26 j0 n) j0 μ x1 x2 x4 x3 (1 : Int32)
          else
            f_X8_letColoursRun_J73 (f_X8_letColoursRun_L26 j0 n) j0 μ x1 x2 x4 x3 (0 : Int32)
        else
          f_X8_letColoursRun_L26 j0 n μ x1 x2 x3 (x4 + (1 : Int32))))
def f_X8_letColoursRun (μ : fw_M) (j0 : Nat) (x1 : Int32) : Option (fw_M × Int32) :=
  fw_g (fw_in x1 2) (
  if (120 : Int32) ≤ (μ j0 7 x1.toNatClampNeg) then
    fw_b1 (f_X7_greatestColourIn μ j0 x1) (fun r3 =>
    f_X8_letColoursRun_L26 j0 1000 μ x1 ((1 : Int32) <<< (r3 &&& (31 : Int32))) (0 : Int32) (0 : Int32))
  else
    some (μ, (0 : Int32)))
def f_X8_countWash_L2 (j0 : Nat) : Nat → fw_M → Int32 → Int32 → Option (fw_M × Unit)
  | 0, _, _, _ => none
  | n + 1, μ, x1, x2 =>
    if (μ j0 0 6) ≤ x2 then
      some (μ, ())
    else
      fw_b1 (f_X7_isIn μ j0 x2 x1) (fun r2 =>
      if r2 = 0 then
        f_X8_countWash_L2 j0 n μ x1 (x2 + (1 : Int32))
      else
        fw_g (fw_in x2 16) (
        fw_l (fw_u μ j0 6 x2.toNatClampNeg ((μ j0 6 x2.toNatClampNeg) + (1 : Int32))) (fun μ5 =>
        f_X8_countWash_L2 j0 n μ5 x1 (x2 + (1 : Int32)))))
def f_X8_countWash (μ : fw_M) (j0 : Nat) (x1 : Int32) : Option (fw_M × Unit) :=
  f_X8_countWash_L2 j0 1000 μ x1 (0 : Int32)
def f_X8_isCleanSingleSock_L22 (μ : fw_M) (j0 : Nat) : Nat → Int32 → Int32 → Option Int32
  | 0, _, _ => none
  | n + 1, x1, x2 =>
    if (μ j0 0 6) ≤ x2 then
      some (1 : Int32)
    else
      if x2 = x1 then
        f_X8_isCleanSingleSock_L22 μ j0 n x1 (x2 + (1 : Int32))
      else
        fw_g (fw_in x2 16) (
        if (μ j0 2 x2.toNatClampNeg) = 0 then
          f_X8_isCleanSingleSock_L22 μ j0 n x1 (x2 + (1 : Int32))
        else
          fw_g (fw_in x1 16) (
          if (μ j0 5 x2.toNatClampNeg) = (μ j0 5 x1.toNatClampNeg) then
            if (μ j0 3 x2.toNatClampNeg) = (μ j0 3 x1.toNatClampNeg) then
              some (0 : Int32)
            else
              f_X8_isCleanSingleSock_L22 μ j0 n x1 (x2 + (1 : Int32))
          else
            f_X8_isCleanSingleSock_L22 μ j0 n x1 (x2 + (1 : Int32))))
def f_X8_isCleanSingleSock (μ : fw_M) (j0 : Nat) (x1 : Int32) : Option Int32 :=
  fw_g (fw_in x1 16) (
  if (μ j0 2 x1.toNatClampNeg) = 0 then
    some (0 : Int32)
  else
    if (μ j0 4 x1.toNatClampNeg) = 0 then
      f_X8_isCleanSingleSock_L22 μ j0 1000 x1 (0 : Int32)
    else
      some (0 : Int32))
def f_X8_loseSocks_L22 (j0 : Nat) : Nat → fw_M → Int32 → Int32 → Int32 → Int32 → Option (fw_M × Int32)
  | 0, _, _, _, _, _ => none
  | n + 1, μ, x1, x2, x3, x4 =>
    if (μ j0 0 6) ≤ x4 then
      some (μ, x3)
    else
      if x2 = 0 then
        f_X8_loseSocks_L22 j0 n μ x1 x2 x3 (x4 + (1 : Int32))
      else
        fw_b1 (f_X7_isIn μ j0 x4 x1) (fun r5 =>
        if r5 = 0 then
          f_X8_loseSocks_L22 j0 n μ x1 x2 x3 (x4 + (1 : Int32))
        else
          fw_b1 (f_X8_isCleanSingleSock μ j0 x4) (fun r7 =>
          if r7 = 0 then
            f_X8_loseSocks_L22 j0 n μ x1 x2 x3 (x4 + (1 : Int32))
          else
            fw_g (fw_in x4 16) (
            fw_l (fw_u μ j0 5 x4.toNatClampNeg (3 : Int32)) (fun μ10 =>
            f_X8_loseSocks_L22 j0 n μ10 x1 x2 (x3 + (1 : Int32)) (x4 + (1 : Int32))))))
def f_X8_loseSocks (μ : fw_M) (j0 : Nat) (x1 : Int32) : Option (fw_M × Int32) :=
  fw_b1 (f_X7_countIn μ j0 x1) (fun r1 =>
  if (r1 - r1 / (2 : Int32) * (2 : Int32)) = (1 : Int32) then
    f_X8_loseSocks_L22 j0 1000 μ x1 (1 : Int32) (0 : Int32) (0 : Int32)
  else
    f_X8_loseSocks_L22 j0 1000 μ x1 (0 : Int32) (0 : Int32) (0 : Int32))
def f_X8_returnToBags_L2 (j0 : Nat) : Nat → fw_M → Int32 → Int32 → Option (fw_M × Unit)
  | 0, _, _, _ => none
  | n + 1, μ, x1, x2 =>
    if (μ j0 0 6) ≤ x2 then
      some (μ, ())
    else
      fw_b1 (f_X7_isIn μ j0 x2 x1) (fun r2 =>
      if r2 = 0 then
        f_X8_returnToBags_L2 j0 n μ x1 (x2 + (1 : Int32))
      else
        fw_g (fw_in x2 16) (
        fw_l (fw_u μ j0 5 x2.toNatClampNeg (0 : Int32)) (fun μ5 =>
        f_X8_returnToBags_L2 j0 n μ5 x1 (x2 + (1 : Int32)))))
def f_X8_returnToBags (μ : fw_M) (j0 : Nat) (x1 : Int32) : Option (fw_M × Unit) :=
  f_X8_returnToBags_L2 j0 1000 μ x1 (0 : Int32)
def f_X8_wash (μ : fw_M) (j0 : Nat) (x1 : Int32) : Option (fw_M × Int32) :=
  fw_b2 (f_X7_charge μ j0 x1) (fun μ1 r1 =>
  fw_l (fw_u μ1 j0 0 9 ((μ1 j0 0 9) + (1 : Int32))) (fun μ2 =>
  fw_b2 (f_X8_removeStains μ2 j0 x1) (fun μ3 r3 =>
  fw_b2 (f_X8_letColoursRun μ3 j0 x1) (fun μ4 r4 =>
  fw_b2 (f_X8_countWash μ4 j0 x1) (fun μ5 r5 =>
  fw_b2 (f_X8_loseSocks μ5 j0 x1) (fun μ6 r6 =>
  fw_b2 (f_X8_returnToBags μ6 j0 x1) (fun μ7 r7 =>
  some (μ7, r6))))))))
def f_X8_damageOfWashing_L9 (j0 : Nat) : Nat → fw_M → Int32 → Int32 → Int32 → Option (fw_M × Int32)
  | 0, _, _, _, _ => none
  | n + 1, μ, x1, x2, x3 =>
    if (μ j0 0 6) ≤ x3 then
      fw_b2 (f_X8_letColoursRun μ j0 x1) (fun μ3 r3 =>
      fw_b2 (f_X8_loseSocks μ3 j0 x1) (fun μ4 r4 =>
      some (μ4, ((x2 + ((3 : Int32) * r3)) + ((10 : Int32) * r4)))))
    else
      fw_b1 (f_X7_isIn μ j0 x3 x1) (fun r5 =>
      if r5 = 0 then
        f_X8_damageOfWashing_L9 j0 n μ x1 x2 (x3 + (1 : Int32))
      else
        fw_b1 (f_X7_stainsOn μ j0 x3) (fun r7 =>
        f_X8_damageOfWashing_L9 j0 n μ x1 (x2 + r7) (x3 + (1 : Int32))))
def f_X8_damageOfWashing (μ : fw_M) (j0 : Nat) (x1 : Int32) : Option (fw_M × Int32) :=
  fw_b2 (f_X8_removeStains μ j0 x1) (fun μ1 r1 =>
  f_X8_damageOfWashing_L9 j0 1000 μ1 x1 (0 : Int32) (0 : Int32))
def f_X8_singleSockColours_L7 (μ : fw_M) (j0 : Nat) : Nat → Int32 → Int32 → Int32 → Int32 → Option Int32
  | 0, _, _, _, _ => none
  | n + 1, x1, x2, x3, x4 =>
    if (μ j0 0 6) ≤ x4 then
      some (x2 &&& (x3 ^^^ (-1 : Int32)))
    else
      fw_b1 (f_X7_isIn μ j0 x4 x1) (fun r2 =>
      if r2 = 0 then
        f_X8_singleSockColours_L7 μ j0 n x1 x2 x3 (x4 + (1 : Int32))
      else
        fw_g (fw_in x4 16) (
        if (μ j0 2 x4.toNatClampNeg) = 0 then
          f_X8_singleSockColours_L7 μ j0 n x1 x2 x3 (x4 + (1 : Int32))
        else
          f_X8_singleSockColours_L7 μ j0 n x1 (x2 ||| ((1 : Int32) <<< ((μ j0 3 x4.toNatClampNeg) &&& (31 : Int32)))) (x3 ||| (x2 &&& ((1 : Int32) <<< ((μ j0 3 x4.toNatClampNeg) &&& (31 : Int32))))) (x4 + (1 : Int32))))
def f_X8_singleSockColours (μ : fw_M) (j0 : Nat) (x1 : Int32) : Option Int32 :=
  f_X8_singleSockColours_L7 μ j0 1000 x1 (0 : Int32) (0 : Int32) (0 : Int32)
def f_X8_damageFromSets_J165 (K58 : Int32 → Int32 → Int32 → Int32 → Int32 → Int32 → Option Int32) (μ : fw_M) (j0 : Nat) (x1 : Int32) (x3 : Int32) (x4 : Int32) (x5 : Int32) (x6 : Int32) (x7 : Int32) (x10 : Int32) (s0 : Int32) : Option Int32 :=
  fw_g (fw_in x7 16) (
  if (μ j0 2 x7.toNatClampNeg) = 0 then
    K58 x1 x3 x4 x5 (x6 + (0 : Int32)) (x7 + (1 : Int32))
  else
    if x10 = 0 then
      K58 x1 x3 x4 x5 (x6 + (0 : Int32)) (x7 + (1 : Int32))
    else
      if s0 = 0 then
        K58 x1 x3 x4 x5 (x6 + (0 : Int32)) (x7 + (1 : Int32))
      else
        K58 x1 x3 x4 x5 (x6 + (10 : Int32)) (x7 + (1 : Int32)))
def f_X8_damageFromSets_J142 (K58 : Int32 → Int32 → Int32 → Int32 → Int32 → Int32 → Option Int32) (μ : fw_M) (j0 : Nat) (x1 : Int32) (x3 : Int32) (x4 : Int32) (x5 : Int32) (x6 : Int32) (x7 : Int32) (s0 : Int32) : Option Int32 :=
  fw_g (fw_in x7 16) (
  if ((x5 >>> ((μ j0 3 x7.toNatClampNeg) &&& (31 : Int32))) &&& (1 : Int32)) = (1 : Int32) then
    f_X8_damageFromSets_J165 K58 μ j0 x1 x3 x4 x5 x6 x7 s0 (1 : Int32)
  else
    f_X8_damageFromSets_J165 K58 μ j0 x1 x3 x4 x5 x6 x7 s0 (0 : Int32))
def f_X8_damageFromSets_J109 (K58 : Int32 → Int32 → Int32 → Int32 → Int32 → Int32 → Option Int32) (μ : fw_M) (j0 : Nat) (x1 : Int32) (x3 : Int32) (x4 : Int32) (x5 : Int32) (x6 : Int32) (x7 : Int32) (x8 : Int32) (s0 : Int32) : Option Int32 :=
  fw_b1 (f_J6_bitCount_0f7a4 μ x8) (fun r12 =>
  fw_b1 (f_J6_bitCount_0f7a4 μ s0) (fun r13 =>
  if (x8 ||| s0) = 0 then
    f_X8_damageFromSets_J142 K58 μ j0 x1 x3 x4 x5 (x6 + (r12 + ((3 : Int32) * r13))) x7 (1 : Int32)
  else
    f_X8_damageFromSets_J142 K58 μ j0 x1 x3 x4 x5 (x6 + (r12 + ((3 : Int32) * r13))) x7 (0 : Int32)))
def f_X8_damageFromSets_L58 (μ : fw_M) (j0 : Nat) : Nat → Int32 → Int32 → Int32 → Int32 → Int32 → Int32 → Option Int32
  | 0, _, _, _, _, _, _ => none
  | n + 1, x1, x3, x4, x5, x6, x7 =>
    if (μ j0 0 6) ≤ x7 then
      some x6
    else
      fw_b1 (f_X7_isIn μ j0 x7 x1) (fun r8 =>
      if r8 = 0 then
        f_X8_damageFromSets_L58 μ j0 n x1 x3 x4 x5 x6 (x7 + (1 : Int32))
      else
        fw_g (fw_in x7 16) (
        if (μ j0 3 x7.toNatClampNeg) = 0 then
          f_X8_damageFromSets_J109 (f_X8_damageFromSets_L58 μ j0 n) μ j0 x1 x3 x4 x5 x6 x7 ((μ j0 4 x7.toNatClampNeg) &&& x3) (x4 &&& (((μ j0 4 x7.toNatClampNeg) &&& x3) ^^^ (-1 : Int32)))
        else
          f_X8_damageFromSets_J109 (f_X8_damageFromSets_L58 μ j0 n) μ j0 x1 x3 x4 x5 x6 x7 ((μ j0 4 x7.toNatClampNeg) &&& x3) (0 : Int32)))
def f_X8_damageFromSets_J28 (μ : fw_M) (j0 : Nat) (x1 : Int32) (x3 : Int32) (s0 : Int32) : Option Int32 :=
  fw_b1 (f_X7_countIn μ j0 x1) (fun r4 =>
  if (r4 - r4 / (2 : Int32) * (2 : Int32)) = (1 : Int32) then
    fw_b1 (f_X8_singleSockColours μ j0 x1) (fun r6 =>
    f_X8_damageFromSets_L58 μ j0 1000 x1 x3 s0 r6 (0 : Int32) (0 : Int32))
  else
    f_X8_damageFromSets_L58 μ j0 1000 x1 x3 s0 (0 : Int32) (0 : Int32) (0 : Int32))
def f_X8_damageFromSets (μ : fw_M) (j0 : Nat) (x1 : Int32) (x2 : Int32) : Option Int32 :=
  fw_b1 (f_X8_removedAt μ x2) (fun r1 =>
  if x2 < (120 : Int32) then
    f_X8_damageFromSets_J28 μ j0 x1 ((255 : Int32) &&& (r1 ^^^ (-1 : Int32))) (0 : Int32)
  else
    fw_b1 (f_X7_greatestColourIn μ j0 x1) (fun r3 =>
    f_X8_damageFromSets_J28 μ j0 x1 ((255 : Int32) &&& (r1 ^^^ (-1 : Int32))) ((1 : Int32) <<< (r3 &&& (31 : Int32)))))
def f_X8_leastHarmfulHalves_L14 (μ : fw_M) (j0 : Nat) : Nat → Int32 → Int32 → Int32 → Int32 → Option Int32
  | 0, _, _, _, _ => none
  | n + 1, x1, x2, x3, x4 =>
    if (120 : Int32) < x4 then
      some x2
    else
      fw_b1 (f_X8_damageFromSets μ j0 x1 x4) (fun r3 =>
      if x3 ≤ r3 then
        f_X8_leastHarmfulHalves_L14 μ j0 n x1 x2 x3 (x4 + (10 : Int32))
      else
        f_X8_leastHarmfulHalves_L14 μ j0 n x1 x4 r3 (x4 + (10 : Int32)))
def f_X8_leastHarmfulHalves (μ : fw_M) (j0 : Nat) (x1 : Int32) : Option Int32 :=
  fw_b1 (f_X8_damageFromSets μ j0 x1 (40 : Int32)) (fun r1 =>
  f_X8_leastHarmfulHalves_L14 μ j0 1000 x1 (40 : Int32) r1 (50 : Int32))
def f_X6_couldPair (μ : fw_M) (j0 : Nat) (x1 : Int32) (x2 : Int32) : Option Int32 :=
  fw_g (fw_in x1 16) (
  if (μ j0 2 x1.toNatClampNeg) = 0 then
    some (0 : Int32)
  else
    fw_g (fw_in x2 16) (
    fw_b1 (f_X7_isInBagOf μ j0 x1 (μ j0 1 x2.toNatClampNeg)) (fun r4 =>
    if r4 = 0 then
      some (0 : Int32)
    else
      if (μ j0 3 x1.toNatClampNeg) = (μ j0 3 x2.toNatClampNeg) then
        some (1 : Int32)
      else
        some (0 : Int32))))
def f_X6_otherSock_L4 (μ : fw_M) (j0 : Nat) : Nat → Int32 → Int32 → Int32 → Option Int32
  | 0, _, _, _ => none
  | n + 1, x1, x2, x3 =>
    if (μ j0 0 6) ≤ x3 then
      some (-1 : Int32)
    else
      fw_b1 (f_X6_couldPair μ j0 x3 x1) (fun r2 =>
      if r2 = 0 then
        f_X6_otherSock_L4 μ j0 n x1 x2 (x3 + (1 : Int32))
      else
        if 0 ≤ x2 then
          if x2 = x1 then
            some x3
          else
            if x3 = x1 then
              some x2
            else
              f_X6_otherSock_L4 μ j0 n x1 (-1 : Int32) (x3 + (1 : Int32))
        else
          f_X6_otherSock_L4 μ j0 n x1 x3 (x3 + (1 : Int32)))
def f_X6_otherSock (μ : fw_M) (j0 : Nat) (x1 : Int32) : Option Int32 :=
  f_X6_otherSock_L4 μ j0 1000 x1 (-1 : Int32) (0 : Int32)
def f_X6_formed_L4 (μ : fw_M) (j0 : Nat) : Nat → Int32 → Int32 → Int32 → Option Int32
  | 0, _, _, _ => none
  | n + 1, x1, x2, x3 =>
    if (μ j0 0 6) ≤ x3 then
      some x2
    else
      fw_g (fw_in x3 16) (
      if (μ j0 2 x3.toNatClampNeg) = 0 then
        f_X6_formed_L4 μ j0 n x1 x2 (x3 + (1 : Int32))
      else
        fw_b1 (f_X7_isInBagOf μ j0 x3 x1) (fun r4 =>
        if r4 = 0 then
          f_X6_formed_L4 μ j0 n x1 x2 (x3 + (1 : Int32))
        else
          fw_b1 (f_X6_otherSock μ j0 x3) (fun r6 =>
          if r6 ≤ x3 then
            f_X6_formed_L4 μ j0 n x1 x2 (x3 + (1 : Int32))
          else
            f_X6_formed_L4 μ j0 n x1 (x2 + (1 : Int32)) (x3 + (1 : Int32)))))
def f_X6_formed (μ : fw_M) (j0 : Nat) (x1 : Int32) : Option Int32 :=
  f_X6_formed_L4 μ j0 1000 x1 (0 : Int32) (0 : Int32)
def f_X6_byParity_L7 (μ : fw_M) (j0 : Nat) : Nat → Int32 → Int32 → Int32 → Int32 → Option Int32
  | 0, _, _, _, _ => none
  | n + 1, x1, x2, x3, x4 =>
    if (μ j0 0 6) ≤ x4 then
      fw_b1 (f_J6_bitCount_0f7a4 μ x3) (fun r2 =>
      some ((x2 - r2) / (2 : Int32)))
    else
      fw_g (fw_in x4 16) (
      if (μ j0 2 x4.toNatClampNeg) = 0 then
        f_X6_byParity_L7 μ j0 n x1 x2 x3 (x4 + (1 : Int32))
      else
        fw_b1 (f_X7_isInBagOf μ j0 x4 x1) (fun r5 =>
        if r5 = 0 then
          f_X6_byParity_L7 μ j0 n x1 x2 x3 (x4 + (1 : Int32))
        else
          f_X6_byParity_L7 μ j0 n x1 (x2 + (1 : Int32)) (x3 ^^^ ((1 : Int32) <<< ((μ j0 3 x4.toNatClampNeg) &&& (31 : Int32)))) (x4 + (1 : Int32))))
def f_X6_byParity (μ : fw_M) (j0 : Nat) (x1 : Int32) : Option Int32 :=
  f_X6_byParity_L7 μ j0 1000 x1 (0 : Int32) (0 : Int32) (0 : Int32)
def f_X3_spareRow (μ : fw_M) : Option Int32 :=
  if (μ 0 11 1) = (8 : Int32) then
    some (0 : Int32)
  else
    some ((μ 0 11 1) + (1 : Int32))
def f_X3_prepare (μ : fw_M) (j0 : Nat) : Option (fw_M × Unit) :=
  fw_b1 (f_X3_spareRow μ) (fun r1 =>
  fw_g (fw_in r1 9) (
  fw_b2 (f_X7_copyFrom μ (3 + r1.toNatClampNeg) j0) (fun μ3 r3 =>
  some (μ3, ()))))
def f_X3_keepPrepared (μ : fw_M) : Option (fw_M × Unit) :=
  fw_b1 (f_X3_spareRow μ) (fun r1 =>
  fw_l (fw_u μ 0 11 1 r1) (fun μ2 =>
  fw_l (fw_u μ2 0 11 2 (if (8 : Int32) < ((μ2 0 11 2) + (1 : Int32)) then (8 : Int32) else ((μ2 0 11 2) + (1 : Int32)))) (fun μ3 =>
  some (μ3, ()))))
def f_X3_remember (μ : fw_M) (j0 : Nat) : Option (fw_M × Unit) :=
  fw_b2 (f_X3_prepare μ j0) (fun μ1 r1 =>
  fw_b2 (f_X3_keepPrepared μ1) (fun μ2 r2 =>
  some (μ2, ())))
def f_X3_takePreparedBack (μ : fw_M) (j0 : Nat) : Option (fw_M × Unit) :=
  fw_b1 (f_X3_spareRow μ) (fun r1 =>
  fw_g (fw_in r1 9) (
  fw_b2 (f_X7_copyFrom μ j0 (3 + r1.toNatClampNeg)) (fun μ3 r3 =>
  some (μ3, ()))))
def f_X3_stepBack (μ : fw_M) (j0 : Nat) : Option (fw_M × Unit) :=
  fw_g (fw_in (μ 0 11 1) 9) (
  fw_b2 (f_X7_copyFrom μ j0 (3 + (μ 0 11 1).toNatClampNeg)) (fun μ2 r2 =>
  if (μ2 0 11 1) = 0 then
    fw_l (fw_u μ2 0 11 1 (8 : Int32)) (fun μ4 =>
    fw_l (fw_u μ4 0 11 2 ((μ4 0 11 2) - (1 : Int32))) (fun μ5 =>
    some (μ5, ())))
  else
    fw_l (fw_u μ2 0 11 1 ((μ2 0 11 1) - (1 : Int32))) (fun μ6 =>
    fw_l (fw_u μ6 0 11 2 ((μ6 0 11 2) - (1 : Int32))) (fun μ7 =>
    some (μ7, ())))))
def f_X3_forget (μ : fw_M) : Option (fw_M × Unit) :=
  fw_l (fw_u μ 0 11 2 (0 : Int32)) (fun μ1 =>
  some (μ1, ()))
def f_X5_empty (μ : fw_M) : Option (fw_M × Unit) :=
  fw_l (fw_u μ 0 16 1 (0 : Int32)) (fun μ1 =>
  some (μ1, ()))
def f_X5_append (μ : fw_M) (x1 : Int32) : Option (fw_M × Unit) :=
  if (176 : Int32) ≤ (μ 0 16 1) then
    some (μ, ())
  else
    fw_g (fw_in (μ 0 16 1) 176) (
    fw_l (fw_u μ 0 17 (μ 0 16 1).toNatClampNeg (vp_nar .char x1)) (fun μ3 =>
    fw_l (fw_u μ3 0 16 1 ((μ3 0 16 1) + (1 : Int32))) (fun μ4 =>
    some (μ4, ()))))
def f_X1_append (μ : fw_M) (x1 : Int32) : Option (fw_M × Int32) :=
  if (60 : Int32) ≤ (μ 0 13 1) then
    some (μ, (μ 0 13 1))
  else
    fw_g (fw_in (μ 0 13 1) 60) (
    fw_l (fw_u μ 0 14 (μ 0 13 1).toNatClampNeg (vp_nar .char x1)) (fun μ3 =>
    fw_l (fw_u μ3 0 13 1 ((μ3 0 13 1) + (1 : Int32))) (fun μ4 =>
    some (μ4, (μ4 0 13 1)))))
def f_X1_empty (μ : fw_M) : Option (fw_M × Unit) :=
  fw_l (fw_u μ 0 13 1 (0 : Int32)) (fun μ1 =>
  some (μ1, ()))
def f_X1_accept (μ : fw_M) (x1 : Int32) : Option (fw_M × Int32) :=
  if (μ 0 13 1) ≤ (μ 0 13 2) then
    some (μ, (0 : Int32))
  else
    fw_g (fw_in (μ 0 13 2) 60) (
    if (μ 0 14 (μ 0 13 2).toNatClampNeg) = x1 then
      fw_l (fw_u μ 0 13 2 ((μ 0 13 2) + (1 : Int32))) (fun μ4 =>
      some (μ4, (1 : Int32)))
    else
      some (μ, (0 : Int32)))
def f_X1_isAtDigit (μ : fw_M) : Option Int32 :=
  if (μ 0 13 1) ≤ (μ 0 13 2) then
    some (0 : Int32)
  else
    fw_g (fw_in (μ 0 13 2) 60) (
    if (μ 0 14 (μ 0 13 2).toNatClampNeg) < (48 : Int32) then
      some (0 : Int32)
    else
      if (57 : Int32) < (μ 0 14 (μ 0 13 2).toNatClampNeg) then
        some (0 : Int32)
      else
        some (1 : Int32))
def f_X1_readNumber_L28 : Nat → fw_M → Int32 → Int32 → Int32 → Option (fw_M × Int32)
  | 0, _, _, _, _ => none
  | n + 1, μ, x1, x2, x3 =>
    if x1 ≤ x3 then
      some (μ, x2)
    else
      fw_b1 (f_X1_isAtDigit μ) (fun r7 =>
      if r7 = 0 then
        some (μ, x2)
      else
        fw_g (fw_in (μ 0 13 2) 60) (
        fw_l (fw_u μ 0 13 2 ((μ 0 13 2) + (1 : Int32))) (fun μ10 =>
        f_X1_readNumber_L28 n μ10 x1 (((10 : Int32) * x2) + ((μ 0 14 (μ 0 13 2).toNatClampNeg) - (48 : Int32))) (x3 + (1 : Int32)))))
def f_X1_readNumber (μ : fw_M) (x1 : Int32) : Option (fw_M × Int32) :=
  if x1 = 0 then
    some (μ, (0 : Int32))
  else
    fw_b2 (f_X1_accept μ (32 : Int32)) (fun μ2 r2 =>
    if r2 = 0 then
      some (μ2, (-1 : Int32))
    else
      fw_b1 (f_X1_isAtDigit μ2) (fun r4 =>
      if r4 = 0 then
        some (μ2, (-1 : Int32))
      else
        f_X1_readNumber_L28 1000 μ2 x1 (0 : Int32) (0 : Int32)))
def f_X9_raise (μ : fw_M) (x0 : Int32) : Option (fw_M × Unit × Nat) :=
  fw_g (fw_in x0 5) (
  if x0 = (1 : Int32) then
    some (μ, (), 1)
  else
    fw_g (fw_in x0 5) (
    if x0 = (2 : Int32) then
      some (μ, (), 2)
    else
      fw_g (fw_in x0 5) (
      if x0 = (3 : Int32) then
        some (μ, (), 4)
      else
        fw_g (fw_in x0 5) (
        if x0 = (4 : Int32) then
          some (μ, (), 3)
        else
          some (μ, (), 0)))))
def f_X9_bring (μ : fw_M) (x1 : Int32) (x2 : Int32) (x3 : Int32) (x4 : Int32) : Option (fw_M × Int32 × Nat) :=
  fw_b1 (f_X7_faultOfBringing μ 0 x1 x3 x4) (fun r1 =>
  fw_b3 (f_X9_raise μ r1) (fun μ2 r2 k2 =>
  if k2 = 0 then
    fw_b2 (f_X3_remember μ2 0) (fun μ3 r3 =>
    fw_b2 (f_X7_addGarment μ3 0 x1 x2 x3 x4) (fun μ4 r4 =>
    some (μ4, r4, 0)))
  else
  some (μ2, 0, k2)))
def f_X9_load (μ : fw_M) (x1 : Int32) (x2 : Int32) : Option (fw_M × Int32 × Nat) :=
  fw_b1 (f_X7_faultOfLoading μ 0 x1 x2) (fun r1 =>
  fw_b3 (f_X9_raise μ r1) (fun μ2 r2 k2 =>
  if k2 = 0 then
    fw_b2 (f_X3_remember μ2 0) (fun μ3 r3 =>
    fw_b2 (f_X7_putIntoMachine μ3 0 x1 x2) (fun μ4 r4 =>
    fw_b1 (f_X7_countIn μ4 0 x2) (fun r5 =>
    some (μ4, r5, 0))))
  else
  some (μ2, 0, k2)))
def f_X9_takeOut (μ : fw_M) (x1 : Int32) : Option (fw_M × Int32 × Nat) :=
  fw_b1 (f_X7_faultOfTakingOut μ 0 x1) (fun r1 =>
  fw_b3 (f_X9_raise μ r1) (fun μ2 r2 k2 =>
  if k2 = 0 then
    fw_b2 (f_X3_remember μ2 0) (fun μ3 r3 =>
    fw_b2 (f_X7_putBackIntoBag μ3 0 x1) (fun μ4 r4 =>
    some (μ4, r4, 0)))
  else
  some (μ2, 0, k2)))
def f_X9_setTemperature (μ : fw_M) (x1 : Int32) (x2 : Int32) : Option (fw_M × UInt32 × Nat) :=
  fw_b1 (f_X7_faultOfHeating μ 0 x1 x2) (fun r1 =>
  fw_b3 (f_X9_raise μ r1) (fun μ2 r2 k2 =>
  if k2 = 0 then
    fw_b2 (f_X3_remember μ2 0) (fun μ3 r3 =>
    fw_b1 (f_X7_degrees μ3 0 x1) (fun r4 =>
    fw_g (fw_in x1 2) (
    fw_l (fw_u μ3 0 7 x1.toNatClampNeg x2) (fun μ6 =>
    some (μ6, r4, 0)))))
  else
  some (μ2, 0, k2)))
def f_X9_run (μ : fw_M) (x1 : Int32) : Option (fw_M × Int32 × Nat) :=
  fw_b1 (f_X7_faultOfRunning μ 0 x1) (fun r1 =>
  fw_b3 (f_X9_raise μ r1) (fun μ2 r2 k2 =>
  if k2 = 0 then
    fw_b2 (f_X3_remember μ2 0) (fun μ3 r3 =>
    fw_b2 (f_X8_wash μ3 0 x1) (fun μ4 r4 =>
    some (μ4, r4, 0)))
  else
  some (μ2, 0, k2)))
def f_X9_garmentCount (μ : fw_M) : Option Int32 :=
  some (μ 0 0 6)
def f_X9_requireGarment (μ : fw_M) (x1 : Int32) : Option (fw_M × Unit × Nat) :=
  fw_b1 (f_X7_isGarment μ 0 x1) (fun r1 =>
  if r1 = 0 then
    some (μ, (), 1)
  else
    some (μ, (), 0))
def f_X9_client (μ : fw_M) (x1 : Int32) : Option (fw_M × Int32 × Nat) :=
  fw_b3 (f_X9_requireGarment μ x1) (fun μ1 r1 k1 =>
  if k1 = 0 then
    fw_g (fw_in x1 16) (
    some (μ1, (μ1 0 1 x1.toNatClampNeg), 0))
  else
  some (μ1, 0, k1))
def f_X9_isSock (μ : fw_M) (x1 : Int32) : Option (fw_M × Int32 × Nat) :=
  fw_b3 (f_X9_requireGarment μ x1) (fun μ1 r1 k1 =>
  if k1 = 0 then
    fw_g (fw_in x1 16) (
    fw_g (fw_bo (μ1 0 2 x1.toNatClampNeg)) (some (μ1, (μ1 0 2 x1.toNatClampNeg), 0)))
  else
  some (μ1, 0, k1))
def f_X9_colour (μ : fw_M) (x1 : Int32) : Option (fw_M × Int32 × Nat) :=
  fw_b3 (f_X9_requireGarment μ x1) (fun μ1 r1 k1 =>
  if k1 = 0 then
    fw_g (fw_in x1 16) (
    some (μ1, (μ1 0 3 x1.toNatClampNeg), 0))
  else
  some (μ1, 0, k1))
def f_X9_stains (μ : fw_M) (x1 : Int32) : Option (fw_M × Int32 × Nat) :=
  fw_b3 (f_X9_requireGarment μ x1) (fun μ1 r1 k1 =>
  if k1 = 0 then
    fw_g (fw_in x1 16) (
    some (μ1, (μ1 0 4 x1.toNatClampNeg), 0))
  else
  some (μ1, 0, k1))
def f_X9_stainCount (μ : fw_M) (x1 : Int32) : Option (fw_M × Int32 × Nat) :=
  fw_b3 (f_X9_requireGarment μ x1) (fun μ1 r1 k1 =>
  if k1 = 0 then
    fw_b1 (f_X7_stainsOn μ1 0 x1) (fun r2 =>
    some (μ1, r2, 0))
  else
  some (μ1, 0, k1))
def f_X9_placeSign (μ : fw_M) (x0 : Int32) : Option Int32 :=
  if x0 = 0 then
    some (98 : Int32)
  else
    if x0 = (3 : Int32) then
      some (120 : Int32)
    else
      some (((((48 : Int32) + x0) - (1 : Int32)).toUInt32 % 65536).toInt32)
def f_X9_place (μ : fw_M) (x1 : Int32) : Option (fw_M × Int32 × Nat) :=
  fw_b3 (f_X9_requireGarment μ x1) (fun μ1 r1 k1 =>
  if k1 = 0 then
    fw_g (fw_in x1 16) (
    fw_b1 (f_X9_placeSign μ1 (μ1 0 5 x1.toNatClampNeg)) (fun r3 =>
    fw_g (fw_ch r3) (some (μ1, r3, 0))))
  else
  some (μ1, 0, k1))
def f_X9_washes (μ : fw_M) (x1 : Int32) : Option (fw_M × Int32 × Nat) :=
  fw_b3 (f_X9_requireGarment μ x1) (fun μ1 r1 k1 =>
  if k1 = 0 then
    fw_g (fw_in x1 16) (
    some (μ1, (μ1 0 6 x1.toNatClampNeg), 0))
  else
  some (μ1, 0, k1))
def f_X9_partner (μ : fw_M) (x1 : Int32) : Option (fw_M × Int32 × Nat) :=
  fw_b3 (f_X9_requireGarment μ x1) (fun μ1 r1 k1 =>
  if k1 = 0 then
    fw_g (fw_in x1 16) (
    if (μ1 0 2 x1.toNatClampNeg) = 0 then
      some (μ1, 0, 4)
    else
      fw_b1 (f_X6_otherSock μ1 0 x1) (fun r4 =>
      if 0 ≤ r4 then
        some (μ1, r4, 0)
      else
        some (μ1, 0, 5)))
  else
  some (μ1, 0, k1))
def f_X9_packed (μ : fw_M) (x1 : Int32) : Option (fw_M × Int64 × Nat) :=
  fw_b3 (f_X9_requireGarment μ x1) (fun μ1 r1 k1 =>
  if k1 = 0 then
    fw_b1 (f_X7_pack μ1 0 x1) (fun r2 =>
    some (μ1, r2, 0))
  else
  some (μ1, 0, k1))
def f_X9_requireClient (μ : fw_M) (x0 : Int32) : Option (fw_M × Unit × Nat) :=
  fw_b1 (f_X9_isClient μ x0) (fun r1 =>
  if r1 = 0 then
    some (μ, (), 1)
  else
    some (μ, (), 0))
def f_X9_pairCount (μ : fw_M) (x1 : Int32) : Option (fw_M × Int32 × Nat) :=
  fw_b3 (f_X9_requireClient μ x1) (fun μ1 r1 k1 =>
  if k1 = 0 then
    fw_b1 (f_X6_formed μ1 0 x1) (fun r2 =>
    some (μ1, r2, 0))
  else
  some (μ1, 0, k1))
def f_X9_pairCountByParity (μ : fw_M) (x1 : Int32) : Option (fw_M × Int32 × Nat) :=
  fw_b3 (f_X9_requireClient μ x1) (fun μ1 r1 k1 =>
  if k1 = 0 then
    fw_b1 (f_X6_byParity μ1 0 x1) (fun r2 =>
    some (μ1, r2, 0))
  else
  some (μ1, 0, k1))
def f_X9_inBag (μ : fw_M) (x1 : Int32) : Option (fw_M × Int32 × Nat) :=
  fw_b3 (f_X9_requireClient μ x1) (fun μ1 r1 k1 =>
  if k1 = 0 then
    fw_b1 (f_X7_garmentsInBag μ1 0 x1) (fun r2 =>
    some (μ1, r2, 0))
  else
  some (μ1, 0, k1))
def f_X9_lost (μ : fw_M) : Option Int32 :=
  fw_b1 (f_X7_garmentsAt μ 0 (3 : Int32)) (fun r1 =>
  some r1)
def f_X9_requireMachine (μ : fw_M) (x0 : Int32) : Option (fw_M × Unit × Nat) :=
  fw_b1 (f_X9_isMachine μ x0) (fun r1 =>
  if r1 = 0 then
    some (μ, (), 1)
  else
    some (μ, (), 0))
def f_X9_inMachine (μ : fw_M) (x1 : Int32) : Option (fw_M × Int32 × Nat) :=
  fw_b3 (f_X9_requireMachine μ x1) (fun μ1 r1 k1 =>
  if k1 = 0 then
    fw_b1 (f_X7_garmentsAt μ1 0 ((1 : Int32) + x1)) (fun r2 =>
    some (μ1, r2, 0))
  else
  some (μ1, 0, k1))
def f_X9_temperature (μ : fw_M) (x1 : Int32) : Option (fw_M × UInt32 × Nat) :=
  fw_b3 (f_X9_requireMachine μ x1) (fun μ1 r1 k1 =>
  if k1 = 0 then
    fw_b1 (f_X7_degrees μ1 0 x1) (fun r2 =>
    some (μ1, r2, 0))
  else
  some (μ1, 0, k1))
def f_X9_bitsOf_J36 (μ : fw_M) (x1 : UInt32) (x2 : Int32) : Option Int32 :=
  fw_g (fw_f32 (FP.fsub x1 FP.fconst1)) (
  fw_g (fw_f32 (FP.fmul (FP.fsub x1 FP.fconst1) (1258291200 : UInt32))) (
  some ((x2 <<< ((23 : Int32) &&& (31 : Int32))) ||| (FP.f2i (FP.fmul (FP.fsub x1 FP.fconst1) (1258291200 : UInt32))))))
def f_X9_bitsOf_L13 (μ : fw_M) : Nat → UInt32 → Int32 → Option Int32
  | 0, _, _ => none
  | n + 1, x1, x2 =>
    if (Op.cmpValue (FP.fcmp x1 FP.fconst2) CmpOp.l) < 0 then
      f_X9_bitsOf_J36 μ x1 x2
    else
      if (254 : Int32) ≤ x2 then
        f_X9_bitsOf_J36 μ x1 x2
      else
        fw_g (fw_f32 (FP.fdiv x1 FP.fconst2)) (
        f_X9_bitsOf_L13 μ n (FP.fdiv x1 FP.fconst2) (x2 + (1 : Int32)))
def f_X9_bitsOf (μ : fw_M) (x0 : UInt32) : Option Int32 :=
  if 0 ≤ (Op.cmpValue (FP.fcmp x0 FP.fconst1) CmpOp.g) then
    f_X9_bitsOf_L13 μ 1000 x0 (127 : Int32)
  else
    some (0 : Int32)
def f_X9_temperatureBits (μ : fw_M) (x1 : Int32) : Option (fw_M × Int32 × Nat) :=
  fw_b3 (f_X9_requireMachine μ x1) (fun μ1 r1 k1 =>
  if k1 = 0 then
    fw_b1 (f_X7_degrees μ1 0 x1) (fun r2 =>
    fw_b1 (f_X9_bitsOf μ1 r2) (fun r3 =>
    some (μ1, r3, 0)))
  else
  some (μ1, 0, k1))
def f_X9_washableStains (μ : fw_M) (x1 : Int32) : Option (fw_M × Int32 × Nat) :=
  fw_b3 (f_X9_requireMachine μ x1) (fun μ1 r1 k1 =>
  if k1 = 0 then
    fw_g (fw_in x1 2) (
    fw_b1 (f_X8_removedAt μ1 (μ1 0 7 x1.toNatClampNeg)) (fun r3 =>
    some (μ1, r3, 0)))
  else
  some (μ1, 0, k1))
def f_X9_commonStains (μ : fw_M) (x1 : Int32) : Option (fw_M × Int32 × Nat) :=
  fw_b3 (f_X9_requireMachine μ x1) (fun μ1 r1 k1 =>
  if k1 = 0 then
    fw_b1 (f_X7_stainsOfAllIn μ1 0 x1) (fun r2 =>
    some (μ1, r2, 0))
  else
  some (μ1, 0, k1))
def f_X9_coloursIn (μ : fw_M) (x1 : Int32) : Option (fw_M × Int32 × Nat) :=
  fw_b3 (f_X9_requireMachine μ x1) (fun μ1 r1 k1 =>
  if k1 = 0 then
    fw_b1 (f_X7_coloursOfLoad μ1 0 x1) (fun r2 =>
    some (μ1, r2, 0))
  else
  some (μ1, 0, k1))
def f_X9_damageOfTrial (μ : fw_M) (x1 : Int32) : Option (fw_M × Int32) :=
  fw_b2 (f_X7_copyFrom μ 1 0) (fun μ1 r1 =>
  fw_b2 (f_X8_damageOfWashing μ1 1 x1) (fun μ2 r2 =>
  some (μ2, r2)))
def f_X9_damage (μ : fw_M) (x1 : Int32) : Option (fw_M × Int32 × Nat) :=
  fw_b3 (f_X9_requireMachine μ x1) (fun μ1 r1 k1 =>
  if k1 = 0 then
    fw_b2 (f_X9_damageOfTrial μ1 x1) (fun μ2 r2 =>
    some (μ2, r2, 0))
  else
  some (μ1, 0, k1))
def f_X9_damageByMasks (μ : fw_M) (x1 : Int32) : Option (fw_M × Int32 × Nat) :=
  fw_b3 (f_X9_requireMachine μ x1) (fun μ1 r1 k1 =>
  if k1 = 0 then
    fw_g (fw_in x1 2) (
    fw_b1 (f_X8_damageFromSets μ1 0 x1 (μ1 0 7 x1.toNatClampNeg)) (fun r3 =>
    some (μ1, r3, 0)))
  else
  some (μ1, 0, k1))
def f_X9_bestTemperature (μ : fw_M) (x1 : Int32) : Option (fw_M × Int32 × Nat) :=
  fw_b3 (f_X9_requireMachine μ x1) (fun μ1 r1 k1 =>
  if k1 = 0 then
    fw_b1 (f_X7_countIn μ1 0 x1) (fun r2 =>
    if r2 = 0 then
      some (μ1, 0, 3)
    else
      fw_b1 (f_X8_leastHarmfulHalves μ1 0 x1) (fun r4 =>
      some (μ1, r4, 0)))
  else
  some (μ1, 0, k1))
def f_X9_price (μ : fw_M) (x1 : Int32) (x2 : Int32) : Option (fw_M × UInt32 × Nat) :=
  fw_b3 (f_X9_requireMachine μ x1) (fun μ1 r1 k1 =>
  if k1 = 0 then
    fw_b3 (f_X9_requireClient μ1 x2) (fun μ2 r2 k2 =>
    if k2 = 0 then
      fw_b1 (f_X7_costOfRun μ2 0 x1 x2) (fun r3 =>
      some (μ2, r3, 0))
    else
    some (μ2, 0, k2))
  else
  some (μ1, 0, k1))
def f_X9_paid (μ : fw_M) (x1 : Int32) : Option (fw_M × UInt32 × Nat) :=
  fw_b3 (f_X9_requireClient μ x1) (fun μ1 r1 k1 =>
  if k1 = 0 then
    fw_g (fw_in x1 4) (
    some (μ1, ((μ1 0 8 x1.toNatClampNeg).toUInt32), 0))
  else
  some (μ1, 0, k1))
def f_X9_paidBits (μ : fw_M) (x1 : Int32) : Option (fw_M × Int32 × Nat) :=
  fw_b3 (f_X9_requireClient μ x1) (fun μ1 r1 k1 =>
  if k1 = 0 then
    fw_g (fw_in x1 4) (
    fw_b1 (f_X9_bitsOf μ1 ((μ1 0 8 x1.toNatClampNeg).toUInt32)) (fun r3 =>
    some (μ1, r3, 0)))
  else
  some (μ1, 0, k1))
def f_X9_runCount (μ : fw_M) : Option Int32 :=
  some (μ 0 0 9)
def f_X9_dirtierThan_J60 (K14 : Int32 → Int32 → Int32 → Int32 → Option Int32) (μ : fw_M) (x1 : Int32) (x2 : Int32) (x3 : Int32) (x4 : Int32) (s0 : Int32) : Option Int32 :=
  fw_g (fw_in x4 16) (
  if (μ 0 5 x4.toNatClampNeg) = (3 : Int32) then
    K14 x1 x2 x3 (x4 + (1 : Int32))
  else
    if s0 = 0 then
      K14 x1 x2 x3 (x4 + (1 : Int32))
    else
      K14 x1 x2 (x3 + (1 : Int32)) (x4 + (1 : Int32)))
def f_X9_dirtierThan_J55 (K14 : Int32 → Int32 → Int32 → Int32 → Option Int32) (μ : fw_M) (x1 : Int32) (x2 : Int32) (x3 : Int32) (x4 : Int32) : Option Int32 :=
  f_X9_dirtierThan_J60 K14 μ x1 x2 x3 x4 (1 : Int32)
def f_X9_dirtierThan_J59 (K14 : Int32 → Int32 → Int32 → Int32 → Option Int32) (μ : fw_M) (x1 : Int32) (x2 : Int32) (x3 : Int32) (x4 : Int32) : Option Int32 :=
  f_X9_dirtierThan_J60 K14 μ x1 x2 x3 x4 (0 : Int32)
def f_X9_dirtierThan_L14 (μ : fw_M) : Nat → Int32 → Int32 → Int32 → Int32 → Option Int32
  | 0, _, _, _, _ => none
  | n + 1, x1, x2, x3, x4 =>
    if (μ 0 0 6) ≤ x4 then
      some x3
    else
      fw_b1 (f_X7_stainsOn μ 0 x4) (fun r3 =>
      if x2 < r3 then
        f_X9_dirtierThan_J55 (f_X9_dirtierThan_L14 μ n) μ x1 x2 x3 x4
      else
        if r3 = x2 then
          if x1 ≤ x4 then
            f_X9_dirtierThan_J59 (f_X9_dirtierThan_L14 μ n) μ x1 x2 x3 x4
          else
            f_X9_dirtierThan_J55 (f_X9_dirtierThan_L14 μ n) μ x1 x2 x3 x4
        else
          f_X9_dirtierThan_J59 (f_X9_dirtierThan_L14 μ n) μ x1 x2 x3 x4)
def f_X9_dirtierThan (μ : fw_M) (x1 : Int32) : Option Int32 :=
  fw_b1 (f_X7_stainsOn μ 0 x1) (fun r1 =>
  f_X9_dirtierThan_L14 μ 1000 x1 r1 (0 : Int32) (0 : Int32))
def f_X9_dirtiest_L2 : Nat → fw_M → Int32 → Int32 → Option (fw_M × Int32 × Nat)
  | 0, _, _, _ => none
  | n + 1, μ, x1, x2 =>
    if (μ 0 0 6) ≤ x2 then
      some (μ, 0, 5)
    else
      fw_g (fw_in x2 16) (
      if (μ 0 5 x2.toNatClampNeg) = (3 : Int32) then
        f_X9_dirtiest_L2 n μ x1 (x2 + (1 : Int32))
      else
        fw_b1 (f_X9_dirtierThan μ x2) (fun r4 =>
        if r4 = x1 then
          some (μ, x2, 0)
        else
          f_X9_dirtiest_L2 n μ x1 (x2 + (1 : Int32))))
def f_X9_dirtiest (μ : fw_M) (x1 : Int32) : Option (fw_M × Int32 × Nat) :=
  f_X9_dirtiest_L2 1000 μ x1 (0 : Int32)
def f_X9_spendingMoreThan_L15 (μ : fw_M) : Nat → Int32 → UInt32 → Int32 → Int32 → Option Int32
  | 0, _, _, _, _ => none
  | n + 1, x1, x2, x3, x4 =>
    if (4 : Int32) ≤ x4 then
      some x3
    else
      fw_g (fw_in x4 4) (
      if 0 < (Op.cmpValue (FP.fcmp (μ 0 8 x4.toNatClampNeg).toUInt32 x2) CmpOp.l) then
        f_X9_spendingMoreThan_L15 μ n x1 x2 (x3 + (1 : Int32)) (x4 + (1 : Int32))
      else
        if (Op.cmpValue (FP.fcmp (μ 0 8 x4.toNatClampNeg).toUInt32 x2) CmpOp.l) = 0 then
          if x1 ≤ x4 then
            f_X9_spendingMoreThan_L15 μ n x1 x2 x3 (x4 + (1 : Int32))
          else
            f_X9_spendingMoreThan_L15 μ n x1 x2 (x3 + (1 : Int32)) (x4 + (1 : Int32))
        else
          f_X9_spendingMoreThan_L15 μ n x1 x2 x3 (x4 + (1 : Int32)))
def f_X9_spendingMoreThan (μ : fw_M) (x1 : Int32) : Option Int32 :=
  fw_g (fw_in x1 4) (
  f_X9_spendingMoreThan_L15 μ 1000 x1 (μ 0 8 x1.toNatClampNeg).toUInt32 (0 : Int32) (0 : Int32))
def f_X9_spender_L2 : Nat → fw_M → Int32 → Int32 → Option (fw_M × Int32 × Nat)
  | 0, _, _, _ => none
  | n + 1, μ, x1, x2 =>
    if (4 : Int32) ≤ x2 then
      some (μ, 0, 5)
    else
      fw_b1 (f_X9_spendingMoreThan μ x2) (fun r2 =>
      if r2 = x1 then
        some (μ, x2, 0)
      else
        f_X9_spender_L2 n μ x1 (x2 + (1 : Int32)))
def f_X9_spender (μ : fw_M) (x1 : Int32) : Option (fw_M × Int32 × Nat) :=
  f_X9_spender_L2 1000 μ x1 (0 : Int32)
def f_X9_meanStains_L6 : Nat → fw_M → Int32 → Int32 → Int32 → Option (fw_M × UInt64 × Nat)
  | 0, _, _, _, _ => none
  | n + 1, μ, x1, x2, x3 =>
    if (μ 0 0 6) ≤ x3 then
      if x2 = 0 then
        some (μ, 0, 6)
      else
        fw_g (fw_f64 (FP.ddiv (FP.i2d x1) (FP.i2d x2))) (
        some (μ, (FP.ddiv (FP.i2d x1) (FP.i2d x2)), 0))
    else
      fw_g (fw_in x3 16) (
      if (μ 0 5 x3.toNatClampNeg) = (3 : Int32) then
        f_X9_meanStains_L6 n μ x1 x2 (x3 + (1 : Int32))
      else
        fw_b1 (f_X7_stainsOn μ 0 x3) (fun r6 =>
        f_X9_meanStains_L6 n μ (x1 + r6) (x2 + (1 : Int32)) (x3 + (1 : Int32))))
def f_X9_meanStains (μ : fw_M) : Option (fw_M × UInt64 × Nat) :=
  f_X9_meanStains_L6 1000 μ (0 : Int32) (0 : Int32) (0 : Int32)
def f_X9_lostShare (μ : fw_M) : Option (fw_M × UInt32 × Nat) :=
  if (μ 0 0 6) = 0 then
    some (μ, 0, 6)
  else
    fw_b1 (f_X7_garmentsAt μ 0 (3 : Int32)) (fun r2 =>
    fw_b1 (f_J6_bitCount_0f7a4 μ r2) (fun r3 =>
    fw_g (fw_f32 (FP.fdiv (FP.i2f r3) (FP.i2f (μ 0 0 6)))) (
    some (μ, (FP.fdiv (FP.i2f r3) (FP.i2f (μ 0 0 6))), 0))))
def f_X9_machinesAgree_L2 : Nat → fw_M → Int32 → Option (fw_M × Int32)
  | 0, _, _ => none
  | n + 1, μ, x1 =>
    if (2 : Int32) ≤ x1 then
      some (μ, (1 : Int32))
    else
      fw_g (fw_in x1 2) (
      fw_b1 (f_X8_damageFromSets μ 0 x1 (μ 0 7 x1.toNatClampNeg)) (fun r3 =>
      fw_b2 (f_X9_damageOfTrial μ x1) (fun μ4 r4 =>
      if r4 = r3 then
        fw_b1 (f_X7_countIn μ4 0 x1) (fun r6 =>
        if r6 ≤ (5 : Int32) then
          f_X9_machinesAgree_L2 n μ4 (x1 + (1 : Int32))
        else
          some (μ4, (0 : Int32)))
      else
        some (μ4, (0 : Int32)))))
def f_X9_machinesAgree (μ : fw_M) : Option (fw_M × Int32) :=
  f_X9_machinesAgree_L2 1000 μ (0 : Int32)
def f_X9_pairsAgree_L2 (μ : fw_M) : Nat → Int32 → Option Int32
  | 0, _ => none
  | n + 1, x1 =>
    if (4 : Int32) ≤ x1 then
      some (1 : Int32)
    else
      fw_b1 (f_X6_formed μ 0 x1) (fun r2 =>
      fw_b1 (f_X6_byParity μ 0 x1) (fun r3 =>
      if r2 = r3 then
        f_X9_pairsAgree_L2 μ n (x1 + (1 : Int32))
      else
        some (0 : Int32)))
def f_X9_pairsAgree (μ : fw_M) : Option Int32 :=
  f_X9_pairsAgree_L2 μ 1000 (0 : Int32)
def f_X9_isConsistent (μ : fw_M) : Option (fw_M × Int32) :=
  fw_b2 (f_X9_machinesAgree μ) (fun μ1 r1 =>
  if r1 = 0 then
    some (μ1, (0 : Int32))
  else
    fw_b1 (f_X9_pairsAgree μ1) (fun r3 =>
    if r3 = 0 then
      some (μ1, (0 : Int32))
    else
      some (μ1, (1 : Int32))))
def f_X9_feed (μ : fw_M) (x1 : Int32) : Option (fw_M × Int32 × Nat) :=
  if (μ 0 13 1) < (60 : Int32) then
    fw_b2 (f_X1_append μ x1) (fun μ2 r2 =>
    some (μ2, r2, 0))
  else
    some (μ, 0, 3)
def f_X9_faultOf_J20 (μ : fw_M) (j0 : Nat) : Option Int32 :=
  fw_b1 (f_X7_faultOfBringing μ 0 (μ j0 9 1) (μ j0 9 2) (μ j0 9 3)) (fun r10 =>
  some r10)
def f_X9_faultOf (μ : fw_M) (j0 : Nat) : Option Int32 :=
  fw_g (fw_in (μ j0 9 0) 6) (
  if (μ j0 9 0) = (0 : Int32) then
    f_X9_faultOf_J20 μ j0
  else
    fw_g (fw_in (μ j0 9 0) 6) (
    if (μ j0 9 0) = (1 : Int32) then
      f_X9_faultOf_J20 μ j0
    else
      fw_g (fw_in (μ j0 9 0) 6) (
      if (μ j0 9 0) = (2 : Int32) then
        fw_b1 (f_X7_faultOfLoading μ 0 (μ j0 9 1) (μ j0 9 2)) (fun r4 =>
        some r4)
      else
        fw_g (fw_in (μ j0 9 0) 6) (
        if (μ j0 9 0) = (3 : Int32) then
          fw_b1 (f_X7_faultOfTakingOut μ 0 (μ j0 9 1)) (fun r6 =>
          some r6)
        else
          fw_g (fw_in (μ j0 9 0) 6) (
          if (μ j0 9 0) = (4 : Int32) then
            fw_b1 (f_X7_faultOfHeating μ 0 (μ j0 9 1) ((2 : Int32) * (μ j0 9 2))) (fun r8 =>
            some r8)
          else
            fw_b1 (f_X7_faultOfRunning μ 0 (μ j0 9 1)) (fun r9 =>
            some r9))))))
def f_X9_carryOut_J35 (j0 : Nat) (μ : fw_M) (s0 : Int32) : Option (fw_M × Unit) :=
  fw_b2 (f_X7_addGarment μ 0 (μ j0 9 1) s0 (μ j0 9 2) (μ j0 9 3)) (fun μ12 r12 =>
  some (μ12, ()))
def f_X9_carryOut_J20 (j0 : Nat) (μ : fw_M) : Option (fw_M × Unit) :=
  fw_g (fw_in (μ j0 9 0) 6) (
  if (μ j0 9 0) = (0 : Int32) then
    f_X9_carryOut_J35 j0 μ (1 : Int32)
  else
    f_X9_carryOut_J35 j0 μ (0 : Int32))
def f_X9_carryOut (μ : fw_M) (j0 : Nat) : Option (fw_M × Unit) :=
  fw_g (fw_in (μ j0 9 0) 6) (
  if (μ j0 9 0) = (0 : Int32) then
    f_X9_carryOut_J20 j0 μ
  else
    fw_g (fw_in (μ j0 9 0) 6) (
    if (μ j0 9 0) = (1 : Int32) then
      f_X9_carryOut_J20 j0 μ
    else
      fw_g (fw_in (μ j0 9 0) 6) (
      if (μ j0 9 0) = (2 : Int32) then
        fw_b2 (f_X7_putIntoMachine μ 0 (μ j0 9 1) (μ j0 9 2)) (fun μ4 r4 =>
        some (μ4, ()))
      else
        fw_g (fw_in (μ j0 9 0) 6) (
        if (μ j0 9 0) = (3 : Int32) then
          fw_b2 (f_X7_putBackIntoBag μ 0 (μ j0 9 1)) (fun μ6 r6 =>
          some (μ6, ()))
        else
          fw_g (fw_in (μ j0 9 0) 6) (
          if (μ j0 9 0) = (4 : Int32) then
            fw_g (fw_in (μ j0 9 1) 2) (
            fw_l (fw_u μ 0 7 (μ j0 9 1).toNatClampNeg ((2 : Int32) * (μ j0 9 2))) (fun μ9 =>
            some (μ9, ())))
          else
            fw_b2 (f_X8_wash μ 0 (μ j0 9 1)) (fun μ10 r10 =>
            some (μ10, ())))))))
def f_X9_carryOutUntilFault_L2 : Nat → fw_M → Int32 → Option (fw_M × Int32)
  | 0, _, _ => none
  | n + 1, μ, x1 =>
    if (μ 0 13 4) ≤ x1 then
      some (μ, (μ 0 13 4))
    else
      fw_g (fw_in x1 12) (
      fw_b1 (f_X9_faultOf μ (x1.toNatClampNeg)) (fun r3 =>
      fw_g (fw_in r3 5) (
      if r3 = (0 : Int32) then
        fw_b2 (f_X9_carryOut μ (x1.toNatClampNeg)) (fun μ5 r5 =>
        f_X9_carryOutUntilFault_L2 n μ5 (x1 + (1 : Int32)))
      else
        some (μ, x1))))
def f_X9_carryOutUntilFault (μ : fw_M) : Option (fw_M × Int32) :=
  f_X9_carryOutUntilFault_L2 1000 μ (0 : Int32)
def f_X9_errorPosition (μ : fw_M) : Option (fw_M × Int32 × Nat) :=
  if 0 ≤ (μ 0 10 7) then
    some (μ, (μ 0 10 7), 0)
  else
    some (μ, 0, 5)
def f_X9_failedCommand (μ : fw_M) : Option (fw_M × Int32 × Nat) :=
  if 0 ≤ (μ 0 10 8) then
    some (μ, (μ 0 10 8), 0)
  else
    some (μ, 0, 5)
def f_X9_describe_L76 : Nat → fw_M → Int32 → Int32 → Option (fw_M × Unit)
  | 0, _, _, _ => none
  | n + 1, μ, x2, x3 =>
    if x2 ≤ x3 then
      some (μ, ())
    else
      fw_b2 (f_X5_append μ (42 : Int32)) (fun μ10 r10 =>
      f_X9_describe_L76 n μ10 x2 (x3 + (1 : Int32)))
def f_X9_describe_J42 (μ : fw_M) (x1 : Int32) (s1 : Int32) : Option (fw_M × Unit) :=
  fw_b2 (f_X5_append μ s1) (fun μ5 r5 =>
  fw_g (fw_in x1 16) (
  fw_b2 (f_X5_append μ5 ((((48 : Int32) + (μ5 0 3 x1.toNatClampNeg)).toUInt32 % 65536).toInt32)) (fun μ7 r7 =>
  fw_b1 (f_X7_stainsOn μ7 0 x1) (fun r8 =>
  f_X9_describe_L76 1000 μ7 r8 (0 : Int32)))))
def f_X9_describe_J19 (μ : fw_M) (x1 : Int32) : Option (fw_M × Unit) :=
  fw_g (fw_in x1 16) (
  if (μ 0 2 x1.toNatClampNeg) = 0 then
    f_X9_describe_J42 μ x1 (103 : Int32)
  else
    f_X9_describe_J42 μ x1 (115 : Int32))
def f_X9_describe (μ : fw_M) (x1 : Int32) : Option (fw_M × Unit) :=
  if (μ 0 16 1) ≤ 0 then
    f_X9_describe_J19 μ x1
  else
    fw_b2 (f_X5_append μ (32 : Int32)) (fun μ2 r2 =>
    f_X9_describe_J19 μ2 x1)
def f_X9_writeBag_L13 : Nat → fw_M → Int32 → Int32 → Option (fw_M × Int32 × Nat)
  | 0, _, _, _ => none
  | n + 1, μ, x1, x2 =>
    if (μ 0 0 6) ≤ x2 then
      some (μ, (μ 0 16 1), 0)
    else
      fw_b1 (f_X7_isInBagOf μ 0 x2 x1) (fun r4 =>
      if r4 = 0 then
        f_X9_writeBag_L13 n μ x1 (x2 + (1 : Int32))
      else
        fw_b2 (f_X9_describe μ x2) (fun μ6 r6 =>
        f_X9_writeBag_L13 n μ6 x1 (x2 + (1 : Int32))))
def f_X9_writeBag (μ : fw_M) (x1 : Int32) : Option (fw_M × Int32 × Nat) :=
  fw_b3 (f_X9_requireClient μ x1) (fun μ1 r1 k1 =>
  if k1 = 0 then
    fw_b2 (f_X5_empty μ1) (fun μ2 r2 =>
    f_X9_writeBag_L13 1000 μ2 x1 (0 : Int32))
  else
  some (μ1, 0, k1))
def f_X9_outputChar (μ : fw_M) (x1 : Int32) : Option (fw_M × Int32 × Nat) :=
  if x1 < 0 then
    some (μ, 0, 1)
  else
    if x1 < (μ 0 16 1) then
      fw_g (fw_in x1 176) (
      fw_g (fw_ch (μ 0 17 x1.toNatClampNeg)) (some (μ, (μ 0 17 x1.toNatClampNeg), 0)))
    else
      some (μ, 0, 1)
def f_X9_undoCount (μ : fw_M) : Option Int32 :=
  some (μ 0 11 2)
def f_X9_undo (μ : fw_M) : Option (fw_M × Int32 × Nat) :=
  if (μ 0 11 2) = 0 then
    some (μ, 0, 3)
  else
    fw_b2 (f_X3_stepBack μ 0) (fun μ2 r2 =>
    some (μ2, (μ2 0 11 2), 0))
def f_X9_save (μ : fw_M) : Option (fw_M × Int32) :=
  fw_b2 (f_X7_copyFrom μ 2 0) (fun μ1 r1 =>
  fw_l (fw_u μ1 0 10 3 (1 : Int32)) (fun μ2 =>
  some (μ2, (μ2 2 0 6))))
def f_X9_restore (μ : fw_M) : Option (fw_M × Int32 × Nat) :=
  if (μ 0 10 3) = 0 then
    some (μ, 0, 3)
  else
    fw_b2 (f_X7_copyFrom μ 0 2) (fun μ2 r2 =>
    fw_b2 (f_X3_forget μ2) (fun μ3 r3 =>
    some (μ3, (μ3 0 0 6), 0)))
def f_X10_thrown (μ : fw_M) : Option Int32 :=
  some (μ 0 18 0)
def f_X10_fails (μ : fw_M) (x1 : Int32) : Option (fw_M × Int32) :=
  fw_l (fw_u μ 0 18 0 x1) (fun μ1 =>
  some (μ1, (0 : Int32)))
def f_X10_in (μ : fw_M) (x0 : Int32) (x1 : Int32) (x2 : Int32) : Option Int32 :=
  if x0 < x1 then
    some (0 : Int32)
  else
    if x2 < x0 then
      some (0 : Int32)
    else
      some (1 : Int32)
def f_X10_remembers_L7 : Nat → fw_M → Int32 → Option (fw_M × Unit)
  | 0, _, _ => none
  | n + 1, μ, x1 =>
    if (104 : Int32) ≤ x1 then
      some (μ, ())
    else
      fw_g (fw_in x1 104) (
      fw_l (fw_u μ 0 20 x1.toNatClampNeg (μ 0 19 x1.toNatClampNeg)) (fun μ4 =>
      f_X10_remembers_L7 n μ4 (x1 + (1 : Int32))))
def f_X10_remembers (μ : fw_M) : Option (fw_M × Unit) :=
  fw_l (fw_u μ 0 18 0 (0 : Int32)) (fun μ1 =>
  f_X10_remembers_L7 1000 μ1 (0 : Int32))
def f_X10_changed_L54 : Nat → fw_M → Int32 → Int32 → Option (fw_M × Int32)
  | 0, _, _, _ => none
  | n + 1, μ, x1, x2 =>
    if (104 : Int32) ≤ x2 then
      some (μ, x1)
    else
      fw_g (fw_in x2 104) (
      fw_g (fw_in (((104 : Int32) * ((μ 0 18 5) - (1 : Int32))) + x2) 832) (
      fw_l (fw_u μ 0 22 (((104 : Int32) * ((μ 0 18 5) - (1 : Int32))) + x2).toNatClampNeg (μ 0 20 x2.toNatClampNeg)) (fun μ10 =>
      f_X10_changed_L54 n μ10 x1 (x2 + (1 : Int32)))))
def f_X10_changed_L11 : Nat → fw_M → Int32 → Int32 → Option (fw_M × Int32)
  | 0, _, _, _ => none
  | n + 1, μ, x1, x2 =>
    if (728 : Int32) ≤ x2 then
      f_X10_changed_L54 1000 μ x1 (0 : Int32)
    else
      fw_g (fw_in (x2 + (104 : Int32)) 832) (
      fw_g (fw_in x2 832) (
      fw_l (fw_u μ 0 22 x2.toNatClampNeg (μ 0 22 (x2 + (104 : Int32)).toNatClampNeg)) (fun μ6 =>
      f_X10_changed_L11 n μ6 x1 (x2 + (1 : Int32)))))
def f_X10_changed (μ : fw_M) (x1 : Int32) : Option (fw_M × Int32) :=
  if (μ 0 18 5) = (8 : Int32) then
    f_X10_changed_L11 1000 μ x1 (0 : Int32)
  else
    fw_l (fw_u μ 0 18 5 ((μ 0 18 5) + (1 : Int32))) (fun μ2 =>
    f_X10_changed_L54 1000 μ2 x1 (0 : Int32))
def f_X10_done (μ : fw_M) (x1 : Int32) : Option (fw_M × Int32) :=
  fw_l (fw_u μ 0 18 15 x1) (fun μ1 =>
  some (μ1, (0 : Int32)))
def f_X10_ends (μ : fw_M) (x1 : Int32) : Option (fw_M × Int32) :=
  if x1 = 0 then
    fw_b2 (f_X10_changed μ (μ 0 18 15)) (fun μ2 r2 =>
    some (μ2, r2))
  else
    fw_b2 (f_X10_fails μ x1) (fun μ3 r3 =>
    some (μ3, r3))
def f_X10_isGarment (μ : fw_M) (x1 : Int32) : Option Int32 :=
  fw_b1 (f_X10_in μ x1 (0 : Int32) ((μ 0 19 (0 : Int32).toNatClampNeg) - (1 : Int32))) (fun r1 =>
  fw_g (fw_bo r1) (some r1))
def f_X10_isClient (μ : fw_M) (x0 : Int32) : Option Int32 :=
  fw_b1 (f_X10_in μ x0 (0 : Int32) (3 : Int32)) (fun r1 =>
  fw_g (fw_bo r1) (some r1))
def f_X10_isMachine (μ : fw_M) (x0 : Int32) : Option Int32 :=
  fw_b1 (f_X10_in μ x0 (0 : Int32) (1 : Int32)) (fun r1 =>
  fw_g (fw_bo r1) (some r1))
def f_X10_of (μ : fw_M) (x1 : Int32) (x2 : Int32) : Option Int32 :=
  fw_g (fw_in (((4 : Int32) + ((6 : Int32) * x1)) + x2) 104) (
  some (μ 0 19 (((4 : Int32) + ((6 : Int32) * x1)) + x2).toNatClampNeg))
def f_X10_sets (μ : fw_M) (x1 : Int32) (x2 : Int32) (x3 : Int32) : Option (fw_M × Unit) :=
  fw_g (fw_in (((4 : Int32) + ((6 : Int32) * x1)) + x2) 104) (
  fw_l (fw_u μ 0 19 (((4 : Int32) + ((6 : Int32) * x1)) + x2).toNatClampNeg x3) (fun μ2 =>
  some (μ2, ())))
def f_X10_bits_L4 (μ : fw_M) : Nat → Int32 → Int32 → Option Int32
  | 0, _, _ => none
  | n + 1, x1, x2 =>
    if x2 ≤ 0 then
      some x1
    else
      f_X10_bits_L4 μ n (x1 + (x2 - x2 / (2 : Int32) * (2 : Int32))) (x2 / (2 : Int32))
def f_X10_bits (μ : fw_M) (x0 : Int32) : Option Int32 :=
  f_X10_bits_L4 μ 1000 (0 : Int32) x0
def f_X10_isInside (μ : fw_M) (x1 : Int32) (x2 : Int32) : Option Int32 :=
  fw_b1 (f_X10_of μ x1 (4 : Int32)) (fun r1 =>
  if r1 = (x2 + (1 : Int32)) then
    some (1 : Int32)
  else
    some (0 : Int32))
def f_X10_held_L4 (μ : fw_M) : Nat → Int32 → Int32 → Int32 → Option Int32
  | 0, _, _, _ => none
  | n + 1, x1, x2, x3 =>
    if (μ 0 19 (0 : Int32).toNatClampNeg) ≤ x3 then
      some x2
    else
      fw_b1 (f_X10_isInside μ x3 x1) (fun r2 =>
      if r2 = 0 then
        f_X10_held_L4 μ n x1 (x2 + (0 : Int32)) (x3 + (1 : Int32))
      else
        f_X10_held_L4 μ n x1 (x2 + (1 : Int32)) (x3 + (1 : Int32)))
def f_X10_held (μ : fw_M) (x1 : Int32) : Option Int32 :=
  f_X10_held_L4 μ 1000 x1 (0 : Int32) (0 : Int32)
def f_X10_heldOf_L5 (μ : fw_M) : Nat → Int32 → Int32 → Int32 → Int32 → Option Int32
  | 0, _, _, _, _ => none
  | n + 1, x1, x2, x3, x4 =>
    if (μ 0 19 (0 : Int32).toNatClampNeg) ≤ x4 then
      some x3
    else
      fw_b1 (f_X10_isInside μ x4 x1) (fun r2 =>
      if r2 = 0 then
        f_X10_heldOf_L5 μ n x1 x2 (x3 + (0 : Int32)) (x4 + (1 : Int32))
      else
        fw_b1 (f_X10_of μ x4 (0 : Int32)) (fun r4 =>
        if r4 = x2 then
          f_X10_heldOf_L5 μ n x1 x2 (x3 + (1 : Int32)) (x4 + (1 : Int32))
        else
          f_X10_heldOf_L5 μ n x1 x2 (x3 + (0 : Int32)) (x4 + (1 : Int32))))
def f_X10_heldOf (μ : fw_M) (x1 : Int32) (x2 : Int32) : Option Int32 :=
  f_X10_heldOf_L5 μ 1000 x1 x2 (0 : Int32) (0 : Int32)
def f_X10_washable_L4 (μ : fw_M) : Nat → Int32 → Int32 → Int32 → Option Int32
  | 0, _, _, _ => none
  | n + 1, x0, x1, x2 =>
    if (8 : Int32) ≤ x2 then
      some x1
    else
      if x0 < ((50 : Int32) + ((10 : Int32) * x2)) then
        f_X10_washable_L4 μ n x0 (x1 ||| (0 : Int32)) (x2 + (1 : Int32))
      else
        f_X10_washable_L4 μ n x0 (x1 ||| ((1 : Int32) <<< (x2 &&& (31 : Int32)))) (x2 + (1 : Int32))
def f_X10_washable (μ : fw_M) (x0 : Int32) : Option Int32 :=
  f_X10_washable_L4 μ 1000 x0 (0 : Int32) (0 : Int32)
def f_X10_greatest_L4 (μ : fw_M) : Nat → Int32 → Int32 → Int32 → Option Int32
  | 0, _, _, _ => none
  | n + 1, x1, x2, x3 =>
    if (μ 0 19 (0 : Int32).toNatClampNeg) ≤ x3 then
      some x2
    else
      fw_b1 (f_X10_isInside μ x3 x1) (fun r2 =>
      if r2 = 0 then
        f_X10_greatest_L4 μ n x1 x2 (x3 + (1 : Int32))
      else
        fw_b1 (f_X10_of μ x3 (2 : Int32)) (fun r4 =>
        if r4 ≤ x2 then
          f_X10_greatest_L4 μ n x1 x2 (x3 + (1 : Int32))
        else
          fw_b1 (f_X10_of μ x3 (2 : Int32)) (fun r6 =>
          f_X10_greatest_L4 μ n x1 r6 (x3 + (1 : Int32)))))
def f_X10_greatest (μ : fw_M) (x1 : Int32) : Option Int32 :=
  f_X10_greatest_L4 μ 1000 x1 (-1 : Int32) (0 : Int32)
def f_X10_washed (μ : fw_M) (x1 : Int32) (x2 : Int32) : Option Int32 :=
  fw_b1 (f_X10_of μ x1 (3 : Int32)) (fun r1 =>
  fw_b1 (f_X10_washable μ x2) (fun r2 =>
  some (r1 &&& (r2 ^^^ (-1 : Int32)))))
def f_X10_stained (μ : fw_M) (x1 : Int32) (x2 : Int32) (x3 : Int32) : Option Int32 :=
  fw_b1 (f_X10_washed μ x1 x3) (fun r1 =>
  if x3 < (120 : Int32) then
    some (r1 ||| (0 : Int32))
  else
    fw_b1 (f_X10_of μ x1 (2 : Int32)) (fun r3 =>
    if r3 = 0 then
      fw_b1 (f_X10_greatest μ x2) (fun r5 =>
      some (r1 ||| ((1 : Int32) <<< (r5 &&& (31 : Int32)))))
    else
      some (r1 ||| (0 : Int32))))
def f_X10_isLonely_L2 (μ : fw_M) : Nat → Int32 → Int32 → Int32 → Option Int32
  | 0, _, _, _ => none
  | n + 1, x1, x2, x3 =>
    if (μ 0 19 (0 : Int32).toNatClampNeg) ≤ x3 then
      some (1 : Int32)
    else
      if x3 = x1 then
        f_X10_isLonely_L2 μ n x1 x2 (x3 + (1 : Int32))
      else
        fw_b1 (f_X10_isInside μ x3 x2) (fun r3 =>
        if r3 = 0 then
          f_X10_isLonely_L2 μ n x1 x2 (x3 + (1 : Int32))
        else
          fw_b1 (f_X10_of μ x3 (1 : Int32)) (fun r5 =>
          if r5 = (1 : Int32) then
            fw_b1 (f_X10_of μ x3 (2 : Int32)) (fun r7 =>
            fw_b1 (f_X10_of μ x1 (2 : Int32)) (fun r8 =>
            if r7 = r8 then
              some (0 : Int32)
            else
              f_X10_isLonely_L2 μ n x1 x2 (x3 + (1 : Int32))))
          else
            f_X10_isLonely_L2 μ n x1 x2 (x3 + (1 : Int32))))
def f_X10_isLonely (μ : fw_M) (x1 : Int32) (x2 : Int32) : Option Int32 :=
  f_X10_isLonely_L2 μ 1000 x1 x2 (0 : Int32)
def f_X10_isLost (μ : fw_M) (x1 : Int32) (x2 : Int32) (x3 : Int32) : Option Int32 :=
  fw_b1 (f_X10_of μ x1 (1 : Int32)) (fun r1 =>
  if r1 = (1 : Int32) then
    fw_b1 (f_X10_held μ x2) (fun r3 =>
    if (r3 - r3 / (2 : Int32) * (2 : Int32)) = (1 : Int32) then
      fw_b1 (f_X10_stained μ x1 x2 x3) (fun r5 =>
      if r5 = 0 then
        fw_b1 (f_X10_isLonely μ x1 x2) (fun r7 =>
        if r7 = 0 then
          some (0 : Int32)
        else
          some (1 : Int32))
      else
        some (0 : Int32))
    else
      some (0 : Int32))
  else
    some (0 : Int32))
def f_X10_harm_J63 (K5 : Int32 → Int32 → Int32 → Int32 → Option Int32) (μ : fw_M) (x1 : Int32) (x2 : Int32) (x4 : Int32) (s0 : Int32) (s1 : Int32) (s2 : Int32) : Option Int32 :=
  fw_b1 (f_X10_isLost μ x4 x1 x2) (fun r9 =>
  if r9 = 0 then
    K5 x1 x2 (s0 + ((s1 + s2) + (0 : Int32))) (x4 + (1 : Int32))
  else
    K5 x1 x2 (s0 + ((s1 + s2) + (10 : Int32))) (x4 + (1 : Int32)))
def f_X10_harm_L5 (μ : fw_M) : Nat → Int32 → Int32 → Int32 → Int32 → Option Int32
  | 0, _, _, _, _ => none
  | n + 1, x1, x2, x3, x4 =>
    if (μ 0 19 (0 : Int32).toNatClampNeg) ≤ x4 then
      some x3
    else
      fw_b1 (f_X10_isInside μ x4 x1) (fun r2 =>
      if r2 = 0 then
        f_X10_harm_L5 μ n x1 x2 x3 (x4 + (1 : Int32))
      else
        fw_b1 (f_X10_washed μ x4 x2) (fun r4 =>
        fw_b1 (f_X10_bits μ r4) (fun r5 =>
        fw_b1 (f_X10_stained μ x4 x1 x2) (fun r6 =>
        fw_b1 (f_X10_washed μ x4 x2) (fun r7 =>
        if r6 = r7 then
          f_X10_harm_J63 (f_X10_harm_L5 μ n) μ x1 x2 x4 x3 r5 (0 : Int32)
        else
          f_X10_harm_J63 (f_X10_harm_L5 μ n) μ x1 x2 x4 x3 r5 (3 : Int32))))))
def f_X10_harm (μ : fw_M) (x1 : Int32) (x2 : Int32) : Option Int32 :=
  f_X10_harm_L5 μ 1000 x1 x2 (0 : Int32) (0 : Int32)
def f_X10_warm (μ : fw_M) (x1 : Int32) : Option UInt32 :=
  fw_g (fw_in ((2 : Int32) + x1) 104) (
  fw_g (fw_f32 (FP.fmul (FP.i2f (μ 0 19 ((2 : Int32) + x1).toNatClampNeg)) (1056964608 : UInt32))) (
  some (FP.fmul (FP.i2f (μ 0 19 ((2 : Int32) + x1).toNatClampNeg)) (1056964608 : UInt32))))
def f_X10_cost_L19 (μ : fw_M) : Nat → Int32 → Int32 → Int32 → Int32 → Option UInt32
  | 0, _, _, _, _ => none
  | n + 1, x1, x3, x4, x5 =>
    if (4 : Int32) ≤ x5 then
      fw_g (fw_f32 (FP.fmul (1067450368 : UInt32) (FP.i2f x3))) (
      fw_b1 (f_X10_warm μ x1) (fun r5 =>
      fw_g (fw_f32 (FP.fmul r5 (1040187392 : UInt32))) (
      fw_g (fw_f32 (FP.fdiv (FP.fmul r5 (1040187392 : UInt32)) (FP.i2f x4))) (
      fw_g (fw_f32 (FP.fadd (FP.fmul (1067450368 : UInt32) (FP.i2f x3)) (FP.fdiv (FP.fmul r5 (1040187392 : UInt32)) (FP.i2f x4)))) (
      some (FP.fadd (FP.fmul (1067450368 : UInt32) (FP.i2f x3)) (FP.fdiv (FP.fmul r5 (1040187392 : UInt32)) (FP.i2f x4))))))))
    else
      fw_b1 (f_X10_heldOf μ x1 x5) (fun r9 =>
      if r9 ≤ 0 then
        f_X10_cost_L19 μ n x1 x3 (x4 + (0 : Int32)) (x5 + (1 : Int32))
      else
        f_X10_cost_L19 μ n x1 x3 (x4 + (1 : Int32)) (x5 + (1 : Int32)))
def f_X10_cost (μ : fw_M) (x1 : Int32) (x2 : Int32) : Option UInt32 :=
  fw_b1 (f_X10_heldOf μ x1 x2) (fun r1 =>
  if r1 = 0 then
    some FP.fconst0
  else
    f_X10_cost_L19 μ 1000 x1 r1 (0 : Int32) (0 : Int32))
def f_X10_sumOf (μ : fw_M) (x1 : Int32) : Option UInt32 :=
  fw_g (fw_in ((100 : Int32) + x1) 104) (
  fw_g (fw_ns (μ 0 19 ((100 : Int32) + x1).toNatClampNeg)) (
  some ((μ 0 19 ((100 : Int32) + x1).toNatClampNeg).toUInt32)))
def f_X10_brings (μ : fw_M) (x1 : Int32) (x2 : Int32) (x3 : Int32) (x4 : Int32) : Option (fw_M × Int32) :=
  fw_b1 (f_X10_isClient μ x1) (fun r1 =>
  if r1 = 0 then
    some (μ, (1 : Int32))
  else
    fw_b1 (f_X10_in μ x3 (0 : Int32) (7 : Int32)) (fun r3 =>
    if r3 = 0 then
      some (μ, (2 : Int32))
    else
      fw_b1 (f_X10_in μ x4 (0 : Int32) (255 : Int32)) (fun r5 =>
      if r5 = 0 then
        some (μ, (2 : Int32))
      else
        if (μ 0 19 (0 : Int32).toNatClampNeg) = (16 : Int32) then
          some (μ, (3 : Int32))
        else
          fw_b2 (f_X10_sets μ (μ 0 19 (0 : Int32).toNatClampNeg) (0 : Int32) x1) (fun μ8 r8 =>
          fw_b2 (f_X10_sets μ8 (μ 0 19 (0 : Int32).toNatClampNeg) (1 : Int32) x2) (fun μ9 r9 =>
          fw_b2 (f_X10_sets μ9 (μ 0 19 (0 : Int32).toNatClampNeg) (2 : Int32) x3) (fun μ10 r10 =>
          fw_b2 (f_X10_sets μ10 (μ 0 19 (0 : Int32).toNatClampNeg) (3 : Int32) x4) (fun μ11 r11 =>
          fw_b2 (f_X10_sets μ11 (μ 0 19 (0 : Int32).toNatClampNeg) (4 : Int32) (0 : Int32)) (fun μ12 r12 =>
          fw_b2 (f_X10_sets μ12 (μ 0 19 (0 : Int32).toNatClampNeg) (5 : Int32) (0 : Int32)) (fun μ13 r13 =>
          fw_g (fw_in (0 : Int32) 104) (
          fw_l (fw_u μ13 0 19 (0 : Int32).toNatClampNeg ((μ 0 19 (0 : Int32).toNatClampNeg) + (1 : Int32))) (fun μ15 =>
          fw_b2 (f_X10_done μ15 (μ 0 19 (0 : Int32).toNatClampNeg)) (fun μ16 r16 =>
          some (μ16, r16)))))))))))))
def f_X10_loads (μ : fw_M) (x1 : Int32) (x2 : Int32) : Option (fw_M × Int32) :=
  fw_b1 (f_X10_isGarment μ x1) (fun r1 =>
  if r1 = 0 then
    some (μ, (1 : Int32))
  else
    fw_b1 (f_X10_isMachine μ x2) (fun r3 =>
    if r3 = 0 then
      some (μ, (1 : Int32))
    else
      fw_b1 (f_X10_of μ x1 (4 : Int32)) (fun r5 =>
      if r5 = 0 then
        fw_b1 (f_X10_held μ x2) (fun r7 =>
        if r7 = (5 : Int32) then
          some (μ, (3 : Int32))
        else
          fw_b2 (f_X10_sets μ x1 (4 : Int32) (x2 + (1 : Int32))) (fun μ9 r9 =>
          fw_b1 (f_X10_held μ9 x2) (fun r10 =>
          fw_b2 (f_X10_done μ9 r10) (fun μ11 r11 =>
          some (μ11, r11)))))
      else
        some (μ, (2 : Int32)))))
def f_X10_takes (μ : fw_M) (x1 : Int32) : Option (fw_M × Int32) :=
  fw_b1 (f_X10_isGarment μ x1) (fun r1 =>
  if r1 = 0 then
    some (μ, (1 : Int32))
  else
    fw_b1 (f_X10_of μ x1 (4 : Int32)) (fun r3 =>
    if r3 = 0 then
      some (μ, (2 : Int32))
    else
      if r3 = (3 : Int32) then
        some (μ, (2 : Int32))
      else
        fw_b2 (f_X10_sets μ x1 (4 : Int32) (0 : Int32)) (fun μ6 r6 =>
        fw_b2 (f_X10_done μ6 (r3 - (1 : Int32))) (fun μ7 r7 =>
        some (μ7, r7)))))
def f_X10_heats (μ : fw_M) (x1 : Int32) (x2 : Int32) : Option (fw_M × Int32) :=
  fw_b1 (f_X10_isMachine μ x1) (fun r1 =>
  if r1 = 0 then
    some (μ, (1 : Int32))
  else
    fw_b1 (f_X10_in μ x2 (40 : Int32) (180 : Int32)) (fun r3 =>
    if r3 = 0 then
      some (μ, (2 : Int32))
    else
      fw_g (fw_in ((2 : Int32) + x1) 104) (
      fw_l (fw_u μ 0 19 ((2 : Int32) + x1).toNatClampNeg x2) (fun μ6 =>
      fw_b2 (f_X10_done μ6 (μ 0 19 ((2 : Int32) + x1).toNatClampNeg)) (fun μ7 r7 =>
      some (μ7, r7))))))
def f_Jxf58ca_isNaN_12338 (μ : fw_M) (x0 : UInt32) : Option Int32 :=
  if (Op.cmpValue (FP.fcmp x0 x0) CmpOp.l) = 0 then
    some (0 : Int32)
  else
    some (1 : Int32)
def f_Jxf58ca_floatToIntBits_5c35a (μ : fw_M) (x0 : UInt32) : Option Int32 :=
  fw_b1 (f_Jxf58ca_isNaN_12338 μ x0) (fun r1 =>
  if r1 = 0 then
    some x0.toInt32
  else
    some (2143289344 : Int32))
def f_X10_washesAll_J279 (K197 : fw_M → Int32 → Int32 → Option (fw_M × Int32)) (μ : fw_M) (x3 : Int32) (x4 : Int32) (x5 : Int32) (s1 : Int32) (s2 : Int32) (s3 : Int32) : Option (fw_M × Int32) :=
  fw_b2 (f_X10_sets μ s1 s2 s3) (fun μ45 r45 =>
  fw_b1 (f_X10_of μ45 x4 (5 : Int32)) (fun r46 =>
  fw_b2 (f_X10_sets μ45 x4 (5 : Int32) (r46 + (1 : Int32))) (fun μ47 r47 =>
  if x5 = 0 then
    K197 μ47 (x3 + (0 : Int32)) (x4 + (1 : Int32))
  else
    K197 μ47 (x3 + (1 : Int32)) (x4 + (1 : Int32)))))
def f_X10_washesAll_J262 (K197 : fw_M → Int32 → Int32 → Option (fw_M × Int32)) (μ : fw_M) (x3 : Int32) (x4 : Int32) (x5 : Int32) (s1 : Int32) (s2 : Int32) (s3 : Int32) : Option (fw_M × Int32) :=
  fw_b2 (f_X10_sets μ s1 s2 s3) (fun μ43 r43 =>
  if x5 = 0 then
    f_X10_washesAll_J279 K197 μ43 x3 x4 x5 x4 (4 : Int32) (0 : Int32)
  else
    f_X10_washesAll_J279 K197 μ43 x3 x4 x5 x4 (4 : Int32) (3 : Int32))
def f_X10_washesAll_J240 (K197 : fw_M → Int32 → Int32 → Option (fw_M × Int32)) (μ : fw_M) (x3 : Int32) (x4 : Int32) (s0 : Int32) : Option (fw_M × Int32) :=
  if s0 = 0 then
    fw_g (fw_in x4 16) (
    f_X10_washesAll_J262 K197 μ x3 x4 s0 x4 (3 : Int32) (μ 0 26 x4.toNatClampNeg))
  else
    f_X10_washesAll_J262 K197 μ x3 x4 s0 x4 (3 : Int32) (0 : Int32)
def f_X10_washesAll_L197 : Nat → fw_M → Int32 → Int32 → Option (fw_M × Int32)
  | 0, _, _, _ => none
  | n + 1, μ, x3, x4 =>
    if (μ 0 19 (0 : Int32).toNatClampNeg) ≤ x4 then
      fw_g (fw_in (1 : Int32) 104) (
      fw_l (fw_u μ 0 19 (1 : Int32).toNatClampNeg ((μ 0 19 (1 : Int32).toNatClampNeg) + (1 : Int32))) (fun μ36 =>
      fw_b2 (f_X10_done μ36 x3) (fun μ37 r37 =>
      some (μ37, r37))))
    else
      fw_g (fw_in x4 16) (
      if (μ 0 26 x4.toNatClampNeg) = (-1 : Int32) then
        f_X10_washesAll_L197 n μ x3 (x4 + (1 : Int32))
      else
        if (μ 0 26 x4.toNatClampNeg) = (256 : Int32) then
          f_X10_washesAll_J240 (f_X10_washesAll_L197 n) μ x3 x4 (1 : Int32)
        else
          f_X10_washesAll_J240 (f_X10_washesAll_L197 n) μ x3 x4 (0 : Int32))
def f_X10_washesAll_L131 : Nat → fw_M → Int32 → Int32 → Int32 → Int32 → Option (fw_M × Int32)
  | 0, _, _, _, _, _ => none
  | n + 1, μ, x1, x2, x3, x4 =>
    if (μ 0 19 (0 : Int32).toNatClampNeg) ≤ x4 then
      f_X10_washesAll_L197 1000 μ x3 (0 : Int32)
    else
      fw_b1 (f_X10_isInside μ x4 x1) (fun r23 =>
      if r23 = 0 then
        fw_g (fw_in x4 16) (
        fw_l (fw_u μ 0 26 x4.toNatClampNeg (-1 : Int32)) (fun μ26 =>
        f_X10_washesAll_L131 n μ26 x1 x2 x3 (x4 + (1 : Int32))))
      else
        fw_b1 (f_X10_isLost μ x4 x1 x2) (fun r27 =>
        if r27 = 0 then
          fw_b1 (f_X10_stained μ x4 x1 x2) (fun r29 =>
          fw_g (fw_in x4 16) (
          fw_l (fw_u μ 0 26 x4.toNatClampNeg r29) (fun μ31 =>
          f_X10_washesAll_L131 n μ31 x1 x2 x3 (x4 + (1 : Int32)))))
        else
          fw_g (fw_in x4 16) (
          fw_l (fw_u μ 0 26 x4.toNatClampNeg (256 : Int32)) (fun μ33 =>
          f_X10_washesAll_L131 n μ33 x1 x2 x3 (x4 + (1 : Int32))))))
def f_X10_washesAll_L99 : Nat → fw_M → Int32 → Int32 → Int32 → Int32 → Option (fw_M × Int32)
  | 0, _, _, _, _, _ => none
  | n + 1, μ, x1, x2, x3, x4 =>
    if (4 : Int32) ≤ x4 then
      f_X10_washesAll_L131 1000 μ x1 x2 x3 (0 : Int32)
    else
      fw_g (fw_in x4 16) (
      fw_g (fw_in ((100 : Int32) + x4) 104) (
      fw_l (fw_u μ 0 19 ((100 : Int32) + x4).toNatClampNeg (μ 0 26 x4.toNatClampNeg)) (fun μ21 =>
      f_X10_washesAll_L99 n μ21 x1 x2 x3 (x4 + (1 : Int32)))))
def f_X10_washesAll_L33 : Nat → fw_M → Int32 → Int32 → Int32 → Int32 → Option (fw_M × Int32)
  | 0, _, _, _, _, _ => none
  | n + 1, μ, x1, x2, x3, x4 =>
    if (4 : Int32) ≤ x4 then
      f_X10_washesAll_L99 1000 μ x1 x2 x3 (0 : Int32)
    else
      fw_b1 (f_X10_sumOf μ x4) (fun r7 =>
      fw_b1 (f_X10_cost μ x1 x4) (fun r8 =>
      fw_g (fw_f32 (FP.fadd r7 r8)) (
      fw_b1 (f_X10_heldOf μ x1 x4) (fun r10 =>
      if r10 ≤ 0 then
        fw_g (fw_in ((100 : Int32) + x4) 104) (
        fw_g (fw_in x4 16) (
        fw_l (fw_u μ 0 26 x4.toNatClampNeg (μ 0 19 ((100 : Int32) + x4).toNatClampNeg)) (fun μ14 =>
        f_X10_washesAll_L33 n μ14 x1 x2 x3 (x4 + (1 : Int32)))))
      else
        fw_b1 (f_Jxf58ca_floatToIntBits_5c35a μ (FP.fadd r7 r8)) (fun r15 =>
        fw_g (fw_in x4 16) (
        fw_l (fw_u μ 0 26 x4.toNatClampNeg r15) (fun μ17 =>
        f_X10_washesAll_L33 n μ17 x1 x2 x3 (x4 + (1 : Int32)))))))))
def f_X10_washesAll (μ : fw_M) (x1 : Int32) : Option (fw_M × Int32) :=
  fw_b1 (f_X10_isMachine μ x1) (fun r1 =>
  if r1 = 0 then
    some (μ, (1 : Int32))
  else
    fw_b1 (f_X10_held μ x1) (fun r3 =>
    if r3 = 0 then
      some (μ, (2 : Int32))
    else
      fw_g (fw_in ((2 : Int32) + x1) 104) (
      f_X10_washesAll_L33 1000 μ x1 (μ 0 19 ((2 : Int32) + x1).toNatClampNeg) (0 : Int32) (0 : Int32))))
def f_X10_bring (μ : fw_M) (x1 : Int32) (x2 : Int32) (x3 : Int32) (x4 : Int32) : Option (fw_M × Int32) :=
  fw_b2 (f_X10_remembers μ) (fun μ1 r1 =>
  if x2 = 0 then
    fw_b2 (f_X10_brings μ1 x1 (0 : Int32) x3 x4) (fun μ3 r3 =>
    fw_b2 (f_X10_ends μ3 r3) (fun μ4 r4 =>
    some (μ4, r4)))
  else
    fw_b2 (f_X10_brings μ1 x1 (1 : Int32) x3 x4) (fun μ5 r5 =>
    fw_b2 (f_X10_ends μ5 r5) (fun μ6 r6 =>
    some (μ6, r6))))
def f_X10_load (μ : fw_M) (x1 : Int32) (x2 : Int32) : Option (fw_M × Int32) :=
  fw_b2 (f_X10_remembers μ) (fun μ1 r1 =>
  fw_b2 (f_X10_loads μ1 x1 x2) (fun μ2 r2 =>
  fw_b2 (f_X10_ends μ2 r2) (fun μ3 r3 =>
  some (μ3, r3))))
def f_X10_takeOut (μ : fw_M) (x1 : Int32) : Option (fw_M × Int32) :=
  fw_b2 (f_X10_remembers μ) (fun μ1 r1 =>
  fw_b2 (f_X10_takes μ1 x1) (fun μ2 r2 =>
  fw_b2 (f_X10_ends μ2 r2) (fun μ3 r3 =>
  some (μ3, r3))))
def f_X10_setTemperature (μ : fw_M) (x1 : Int32) (x2 : Int32) : Option (fw_M × UInt32) :=
  fw_b2 (f_X10_remembers μ) (fun μ1 r1 =>
  fw_b2 (f_X10_heats μ1 x1 x2) (fun μ2 r2 =>
  fw_b2 (f_X10_ends μ2 r2) (fun μ3 r3 =>
  fw_g (fw_f32 (FP.fmul (FP.i2f r3) (1056964608 : UInt32))) (
  some (μ3, (FP.fmul (FP.i2f r3) (1056964608 : UInt32)))))))
def f_X10_run (μ : fw_M) (x1 : Int32) : Option (fw_M × Int32) :=
  fw_b2 (f_X10_remembers μ) (fun μ1 r1 =>
  fw_b2 (f_X10_washesAll μ1 x1) (fun μ2 r2 =>
  fw_b2 (f_X10_ends μ2 r2) (fun μ3 r3 =>
  some (μ3, r3))))
def f_X10_garmentCount (μ : fw_M) : Option (fw_M × Int32) :=
  fw_l (fw_u μ 0 18 0 (0 : Int32)) (fun μ1 =>
  some (μ1, (μ1 0 19 (0 : Int32).toNatClampNeg)))
def f_X10_asked_J14 (μ : fw_M) (x1 : Int32) (x2 : Int32) (s1 : Int32) : Option (fw_M × Int32) :=
  fw_l (fw_u μ 0 18 0 s1) (fun μ3 =>
  if (μ3 0 18 0) ≤ 0 then
    fw_b1 (f_X10_of μ3 x1 x2) (fun r5 =>
    some (μ3, r5))
  else
    some (μ3, (0 : Int32)))
def f_X10_asked (μ : fw_M) (x1 : Int32) (x2 : Int32) : Option (fw_M × Int32) :=
  fw_b1 (f_X10_isGarment μ x1) (fun r1 =>
  if r1 = 0 then
    f_X10_asked_J14 μ x1 x2 (1 : Int32)
  else
    f_X10_asked_J14 μ x1 x2 (0 : Int32))
def f_X10_client (μ : fw_M) (x1 : Int32) : Option (fw_M × Int32) :=
  fw_b2 (f_X10_asked μ x1 (0 : Int32)) (fun μ1 r1 =>
  some (μ1, r1))
def f_X10_isSock (μ : fw_M) (x1 : Int32) : Option (fw_M × Int32) :=
  fw_b2 (f_X10_asked μ x1 (1 : Int32)) (fun μ1 r1 =>
  if r1 = (1 : Int32) then
    some (μ1, (1 : Int32))
  else
    some (μ1, (0 : Int32)))
def f_X10_colour (μ : fw_M) (x1 : Int32) : Option (fw_M × Int32) :=
  fw_b2 (f_X10_asked μ x1 (2 : Int32)) (fun μ1 r1 =>
  some (μ1, r1))
def f_X10_stains (μ : fw_M) (x1 : Int32) : Option (fw_M × Int32) :=
  fw_b2 (f_X10_asked μ x1 (3 : Int32)) (fun μ1 r1 =>
  some (μ1, r1))
def f_X10_stainCount (μ : fw_M) (x1 : Int32) : Option (fw_M × Int32) :=
  fw_b2 (f_X10_asked μ x1 (3 : Int32)) (fun μ1 r1 =>
  fw_b1 (f_X10_bits μ1 r1) (fun r2 =>
  some (μ1, r2)))
def f_X10_washes (μ : fw_M) (x1 : Int32) : Option (fw_M × Int32) :=
  fw_b2 (f_X10_asked μ x1 (5 : Int32)) (fun μ1 r1 =>
  some (μ1, r1))
def f_X10_isSockIn (μ : fw_M) (x1 : Int32) (x2 : Int32) (x3 : Int32) : Option Int32 :=
  fw_b1 (f_X10_of μ x1 (1 : Int32)) (fun r1 =>
  if r1 = (1 : Int32) then
    fw_b1 (f_X10_of μ x1 (4 : Int32)) (fun r3 =>
    if r3 = 0 then
      fw_b1 (f_X10_of μ x1 (0 : Int32)) (fun r5 =>
      if r5 = x2 then
        fw_b1 (f_X10_of μ x1 (2 : Int32)) (fun r7 =>
        if r7 = x3 then
          some (1 : Int32)
        else
          some (0 : Int32))
      else
        some (0 : Int32))
    else
      some (0 : Int32))
  else
    some (0 : Int32))
def f_X10_other_L15 (μ : fw_M) : Nat → Int32 → Int32 → Int32 → Option Int32
  | 0, _, _, _ => none
  | n + 1, x1, x2, x3 =>
    if (μ 0 19 (0 : Int32).toNatClampNeg) ≤ x3 then
      some (-1 : Int32)
    else
      fw_b1 (f_X10_of μ x1 (0 : Int32)) (fun r4 =>
      fw_b1 (f_X10_of μ x1 (2 : Int32)) (fun r5 =>
      fw_b1 (f_X10_isSockIn μ x3 r4 r5) (fun r6 =>
      if r6 = 0 then
        f_X10_other_L15 μ n x1 x2 (x3 + (1 : Int32))
      else
        if x2 = (-1 : Int32) then
          f_X10_other_L15 μ n x1 x3 (x3 + (1 : Int32))
        else
          if x2 = x1 then
            some x3
          else
            if x3 = x1 then
              some x2
            else
              f_X10_other_L15 μ n x1 (-1 : Int32) (x3 + (1 : Int32)))))
def f_X10_other (μ : fw_M) (x1 : Int32) : Option Int32 :=
  fw_b1 (f_X10_of μ x1 (4 : Int32)) (fun r1 =>
  if r1 = 0 then
    f_X10_other_L15 μ 1000 x1 (-1 : Int32) (0 : Int32)
  else
    some (-1 : Int32))
def f_X10_partner_J40 (μ : fw_M) (x1 : Int32) (s1 : Int32) : Option (fw_M × Int32) :=
  fw_l (fw_u μ 0 18 0 s1) (fun μ7 =>
  if (μ7 0 18 0) ≤ 0 then
    fw_b1 (f_X10_other μ7 x1) (fun r9 =>
    some (μ7, r9))
  else
    some (μ7, (0 : Int32)))
def f_X10_partner (μ : fw_M) (x1 : Int32) : Option (fw_M × Int32) :=
  fw_b1 (f_X10_isGarment μ x1) (fun r1 =>
  if r1 = 0 then
    f_X10_partner_J40 μ x1 (1 : Int32)
  else
    fw_b1 (f_X10_of μ x1 (1 : Int32)) (fun r3 =>
    if r3 = 0 then
      f_X10_partner_J40 μ x1 (2 : Int32)
    else
      fw_b1 (f_X10_other μ x1) (fun r5 =>
      if r5 = (-1 : Int32) then
        f_X10_partner_J40 μ x1 (3 : Int32)
      else
        f_X10_partner_J40 μ x1 (0 : Int32))))
def f_X10_pairCount_L41 (K29 : fw_M → Int32 → Int32 → Int32 → Option (fw_M × Int32)) : Nat → fw_M → Int32 → Int32 → Int32 → Int32 → Int32 → Option (fw_M × Int32)
  | 0, _, _, _, _, _, _ => none
  | n + 1, μ, x1, x2, x3, x4, x5 =>
    if (μ 0 19 (0 : Int32).toNatClampNeg) ≤ x5 then
      K29 μ x1 (x2 + (x4 / (2 : Int32))) (x3 + (1 : Int32))
    else
      fw_b1 (f_X10_isSockIn μ x5 x1 x3) (fun r7 =>
      if r7 = 0 then
        f_X10_pairCount_L41 K29 n μ x1 x2 x3 (x4 + (0 : Int32)) (x5 + (1 : Int32))
      else
        f_X10_pairCount_L41 K29 n μ x1 x2 x3 (x4 + (1 : Int32)) (x5 + (1 : Int32)))
def f_X10_pairCount_L29 : Nat → fw_M → Int32 → Int32 → Int32 → Option (fw_M × Int32)
  | 0, _, _, _, _ => none
  | n + 1, μ, x1, x2, x3 =>
    if (8 : Int32) ≤ x3 then
      some (μ, x2)
    else
      f_X10_pairCount_L41 (f_X10_pairCount_L29 n) 1000 μ x1 x2 x3 (0 : Int32) (0 : Int32)
def f_X10_pairCount_J13 (μ : fw_M) (x1 : Int32) (s1 : Int32) : Option (fw_M × Int32) :=
  fw_l (fw_u μ 0 18 0 s1) (fun μ3 =>
  if (μ3 0 18 0) ≤ 0 then
    f_X10_pairCount_L29 1000 μ3 x1 (0 : Int32) (0 : Int32)
  else
    some (μ3, (0 : Int32)))
def f_X10_pairCount (μ : fw_M) (x1 : Int32) : Option (fw_M × Int32) :=
  fw_b1 (f_X10_isClient μ x1) (fun r1 =>
  if r1 = 0 then
    f_X10_pairCount_J13 μ x1 (1 : Int32)
  else
    f_X10_pairCount_J13 μ x1 (0 : Int32))
def f_X10_pairCountByParity (μ : fw_M) (x1 : Int32) : Option (fw_M × Int32) :=
  fw_b2 (f_X10_pairCount μ x1) (fun μ1 r1 =>
  some (μ1, r1))
def f_X10_inBag_L20 : Nat → fw_M → Int32 → Int32 → Int32 → Option (fw_M × Int32)
  | 0, _, _, _, _ => none
  | n + 1, μ, x1, x2, x3 =>
    if (μ 0 19 (0 : Int32).toNatClampNeg) ≤ x3 then
      some (μ, x2)
    else
      if (μ 0 18 0) = 0 then
        fw_b1 (f_X10_of μ x3 (4 : Int32)) (fun r7 =>
        if r7 = 0 then
          fw_b1 (f_X10_of μ x3 (0 : Int32)) (fun r9 =>
          if r9 = x1 then
            f_X10_inBag_L20 n μ x1 (x2 ||| ((1 : Int32) <<< (x3 &&& (31 : Int32)))) (x3 + (1 : Int32))
          else
            f_X10_inBag_L20 n μ x1 (x2 ||| (0 : Int32)) (x3 + (1 : Int32)))
        else
          f_X10_inBag_L20 n μ x1 (x2 ||| (0 : Int32)) (x3 + (1 : Int32)))
      else
        some (μ, x2)
def f_X10_inBag (μ : fw_M) (x1 : Int32) : Option (fw_M × Int32) :=
  fw_b1 (f_X10_isClient μ x1) (fun r1 =>
  if r1 = 0 then
    fw_l (fw_u μ 0 18 0 (1 : Int32)) (fun μ3 =>
    f_X10_inBag_L20 1000 μ3 x1 (0 : Int32) (0 : Int32))
  else
    fw_l (fw_u μ 0 18 0 (0 : Int32)) (fun μ4 =>
    f_X10_inBag_L20 1000 μ4 x1 (0 : Int32) (0 : Int32)))
def f_X10_inMachine_L20 : Nat → fw_M → Int32 → Int32 → Int32 → Option (fw_M × Int32)
  | 0, _, _, _, _ => none
  | n + 1, μ, x1, x2, x3 =>
    if (μ 0 19 (0 : Int32).toNatClampNeg) ≤ x3 then
      some (μ, x2)
    else
      if (μ 0 18 0) = 0 then
        fw_b1 (f_X10_isInside μ x3 x1) (fun r7 =>
        if r7 = 0 then
          f_X10_inMachine_L20 n μ x1 (x2 ||| (0 : Int32)) (x3 + (1 : Int32))
        else
          f_X10_inMachine_L20 n μ x1 (x2 ||| ((1 : Int32) <<< (x3 &&& (31 : Int32)))) (x3 + (1 : Int32)))
      else
        some (μ, x2)
def f_X10_inMachine (μ : fw_M) (x1 : Int32) : Option (fw_M × Int32) :=
  fw_b1 (f_X10_isMachine μ x1) (fun r1 =>
  if r1 = 0 then
    fw_l (fw_u μ 0 18 0 (1 : Int32)) (fun μ3 =>
    f_X10_inMachine_L20 1000 μ3 x1 (0 : Int32) (0 : Int32))
  else
    fw_l (fw_u μ 0 18 0 (0 : Int32)) (fun μ4 =>
    f_X10_inMachine_L20 1000 μ4 x1 (0 : Int32) (0 : Int32)))
def f_X10_lost_L9 : Nat → fw_M → Int32 → Int32 → Option (fw_M × Int32)
  | 0, _, _, _ => none
  | n + 1, μ, x1, x2 =>
    if (μ 0 19 (0 : Int32).toNatClampNeg) ≤ x2 then
      some (μ, x1)
    else
      fw_b1 (f_X10_of μ x2 (4 : Int32)) (fun r3 =>
      if r3 = (3 : Int32) then
        f_X10_lost_L9 n μ (x1 ||| ((1 : Int32) <<< (x2 &&& (31 : Int32)))) (x2 + (1 : Int32))
      else
        f_X10_lost_L9 n μ (x1 ||| (0 : Int32)) (x2 + (1 : Int32)))
def f_X10_lost (μ : fw_M) : Option (fw_M × Int32) :=
  fw_l (fw_u μ 0 18 0 (0 : Int32)) (fun μ1 =>
  f_X10_lost_L9 1000 μ1 (0 : Int32) (0 : Int32))
def f_X10_temperature_J13 (μ : fw_M) (x1 : Int32) (s1 : Int32) : Option (fw_M × UInt32) :=
  fw_l (fw_u μ 0 18 0 s1) (fun μ3 =>
  if (μ3 0 18 0) ≤ 0 then
    fw_b1 (f_X10_warm μ3 x1) (fun r5 =>
    some (μ3, r5))
  else
    some (μ3, FP.fconst0))
def f_X10_temperature (μ : fw_M) (x1 : Int32) : Option (fw_M × UInt32) :=
  fw_b1 (f_X10_isMachine μ x1) (fun r1 =>
  if r1 = 0 then
    f_X10_temperature_J13 μ x1 (1 : Int32)
  else
    f_X10_temperature_J13 μ x1 (0 : Int32))
def f_X10_temperatureBits_J13 (μ : fw_M) (x1 : Int32) (s1 : Int32) : Option (fw_M × Int32) :=
  fw_l (fw_u μ 0 18 0 s1) (fun μ3 =>
  if (μ3 0 18 0) ≤ 0 then
    fw_b1 (f_X10_warm μ3 x1) (fun r5 =>
    fw_b1 (f_Jxf58ca_floatToIntBits_5c35a μ3 r5) (fun r6 =>
    some (μ3, r6)))
  else
    some (μ3, (0 : Int32)))
def f_X10_temperatureBits (μ : fw_M) (x1 : Int32) : Option (fw_M × Int32) :=
  fw_b1 (f_X10_isMachine μ x1) (fun r1 =>
  if r1 = 0 then
    f_X10_temperatureBits_J13 μ x1 (1 : Int32)
  else
    f_X10_temperatureBits_J13 μ x1 (0 : Int32))
def f_X10_washableStains_J13 (μ : fw_M) (x1 : Int32) (s1 : Int32) : Option (fw_M × Int32) :=
  fw_l (fw_u μ 0 18 0 s1) (fun μ3 =>
  if (μ3 0 18 0) ≤ 0 then
    fw_g (fw_in ((2 : Int32) + x1) 104) (
    fw_b1 (f_X10_washable μ3 (μ3 0 19 ((2 : Int32) + x1).toNatClampNeg)) (fun r6 =>
    some (μ3, r6)))
  else
    some (μ3, (0 : Int32)))
def f_X10_washableStains (μ : fw_M) (x1 : Int32) : Option (fw_M × Int32) :=
  fw_b1 (f_X10_isMachine μ x1) (fun r1 =>
  if r1 = 0 then
    f_X10_washableStains_J13 μ x1 (1 : Int32)
  else
    f_X10_washableStains_J13 μ x1 (0 : Int32))
def f_X10_commonStains_L31 : Nat → fw_M → Int32 → Int32 → Int32 → Option (fw_M × Int32)
  | 0, _, _, _, _ => none
  | n + 1, μ, x1, x2, x3 =>
    if (μ 0 19 (0 : Int32).toNatClampNeg) ≤ x3 then
      some (μ, x2)
    else
      fw_b1 (f_X10_isInside μ x3 x1) (fun r6 =>
      if r6 = 0 then
        f_X10_commonStains_L31 n μ x1 (x2 &&& (255 : Int32)) (x3 + (1 : Int32))
      else
        fw_b1 (f_X10_of μ x3 (3 : Int32)) (fun r8 =>
        f_X10_commonStains_L31 n μ x1 (x2 &&& r8) (x3 + (1 : Int32))))
def f_X10_commonStains_J13 (μ : fw_M) (x1 : Int32) (s1 : Int32) : Option (fw_M × Int32) :=
  fw_l (fw_u μ 0 18 0 s1) (fun μ3 =>
  if (μ3 0 18 0) ≤ 0 then
    f_X10_commonStains_L31 1000 μ3 x1 (255 : Int32) (0 : Int32)
  else
    some (μ3, (0 : Int32)))
def f_X10_commonStains (μ : fw_M) (x1 : Int32) : Option (fw_M × Int32) :=
  fw_b1 (f_X10_isMachine μ x1) (fun r1 =>
  if r1 = 0 then
    f_X10_commonStains_J13 μ x1 (1 : Int32)
  else
    f_X10_commonStains_J13 μ x1 (0 : Int32))
def f_X10_coloursIn_L29 : Nat → fw_M → Int32 → Int32 → Int32 → Option (fw_M × Int32)
  | 0, _, _, _, _ => none
  | n + 1, μ, x1, x2, x3 =>
    if (μ 0 19 (0 : Int32).toNatClampNeg) ≤ x3 then
      some (μ, x2)
    else
      fw_b1 (f_X10_isInside μ x3 x1) (fun r6 =>
      if r6 = 0 then
        f_X10_coloursIn_L29 n μ x1 (x2 ||| (0 : Int32)) (x3 + (1 : Int32))
      else
        fw_b1 (f_X10_of μ x3 (2 : Int32)) (fun r8 =>
        f_X10_coloursIn_L29 n μ x1 (x2 ||| ((1 : Int32) <<< (r8 &&& (31 : Int32)))) (x3 + (1 : Int32))))
def f_X10_coloursIn_J13 (μ : fw_M) (x1 : Int32) (s1 : Int32) : Option (fw_M × Int32) :=
  fw_l (fw_u μ 0 18 0 s1) (fun μ3 =>
  if (μ3 0 18 0) ≤ 0 then
    f_X10_coloursIn_L29 1000 μ3 x1 (0 : Int32) (0 : Int32)
  else
    some (μ3, (0 : Int32)))
def f_X10_coloursIn (μ : fw_M) (x1 : Int32) : Option (fw_M × Int32) :=
  fw_b1 (f_X10_isMachine μ x1) (fun r1 =>
  if r1 = 0 then
    f_X10_coloursIn_J13 μ x1 (1 : Int32)
  else
    f_X10_coloursIn_J13 μ x1 (0 : Int32))
def f_X10_damage_J13 (μ : fw_M) (x1 : Int32) (s1 : Int32) : Option (fw_M × Int32) :=
  fw_l (fw_u μ 0 18 0 s1) (fun μ3 =>
  if (μ3 0 18 0) ≤ 0 then
    fw_g (fw_in ((2 : Int32) + x1) 104) (
    fw_b1 (f_X10_harm μ3 x1 (μ3 0 19 ((2 : Int32) + x1).toNatClampNeg)) (fun r6 =>
    some (μ3, r6)))
  else
    some (μ3, (0 : Int32)))
def f_X10_damage (μ : fw_M) (x1 : Int32) : Option (fw_M × Int32) :=
  fw_b1 (f_X10_isMachine μ x1) (fun r1 =>
  if r1 = 0 then
    f_X10_damage_J13 μ x1 (1 : Int32)
  else
    f_X10_damage_J13 μ x1 (0 : Int32))
def f_X10_damageByMasks (μ : fw_M) (x1 : Int32) : Option (fw_M × Int32) :=
  fw_b2 (f_X10_damage μ x1) (fun μ1 r1 =>
  some (μ1, r1))
def f_X10_bestTemperature_L43 : Nat → fw_M → Int32 → Int32 → Int32 → Option (fw_M × Int32)
  | 0, _, _, _, _ => none
  | n + 1, μ, x1, x2, x3 =>
    if (180 : Int32) < x3 then
      some (μ, x2)
    else
      fw_b1 (f_X10_harm μ x1 x3) (fun r8 =>
      fw_b1 (f_X10_harm μ x1 x2) (fun r9 =>
      if r9 ≤ r8 then
        f_X10_bestTemperature_L43 n μ x1 x2 (x3 + (1 : Int32))
      else
        f_X10_bestTemperature_L43 n μ x1 x3 (x3 + (1 : Int32))))
def f_X10_bestTemperature_J25 (μ : fw_M) (x1 : Int32) (s1 : Int32) : Option (fw_M × Int32) :=
  fw_l (fw_u μ 0 18 0 s1) (fun μ5 =>
  if (μ5 0 18 0) ≤ 0 then
    f_X10_bestTemperature_L43 1000 μ5 x1 (40 : Int32) (41 : Int32)
  else
    some (μ5, (0 : Int32)))
def f_X10_bestTemperature (μ : fw_M) (x1 : Int32) : Option (fw_M × Int32) :=
  fw_b1 (f_X10_isMachine μ x1) (fun r1 =>
  if r1 = 0 then
    f_X10_bestTemperature_J25 μ x1 (1 : Int32)
  else
    fw_b1 (f_X10_held μ x1) (fun r3 =>
    if r3 = 0 then
      f_X10_bestTemperature_J25 μ x1 (2 : Int32)
    else
      f_X10_bestTemperature_J25 μ x1 (0 : Int32)))
def f_X10_price_J20 (μ : fw_M) (x1 : Int32) (x2 : Int32) (s1 : Int32) : Option (fw_M × UInt32) :=
  fw_l (fw_u μ 0 18 0 s1) (fun μ5 =>
  if (μ5 0 18 0) ≤ 0 then
    fw_b1 (f_X10_cost μ5 x1 x2) (fun r7 =>
    some (μ5, r7))
  else
    some (μ5, FP.fconst0))
def f_X10_price_J19 (μ : fw_M) (x1 : Int32) (x2 : Int32) : Option (fw_M × UInt32) :=
  f_X10_price_J20 μ x1 x2 (1 : Int32)
def f_X10_price (μ : fw_M) (x1 : Int32) (x2 : Int32) : Option (fw_M × UInt32) :=
  fw_b1 (f_X10_isMachine μ x1) (fun r1 =>
  if r1 = 0 then
    f_X10_price_J19 μ x1 x2
  else
    fw_b1 (f_X10_isClient μ x2) (fun r3 =>
    if r3 = 0 then
      f_X10_price_J19 μ x1 x2
    else
      f_X10_price_J20 μ x1 x2 (0 : Int32)))
def f_X10_paid_J13 (μ : fw_M) (x1 : Int32) (s1 : Int32) : Option (fw_M × UInt32) :=
  fw_l (fw_u μ 0 18 0 s1) (fun μ3 =>
  if (μ3 0 18 0) ≤ 0 then
    fw_b1 (f_X10_sumOf μ3 x1) (fun r5 =>
    some (μ3, r5))
  else
    some (μ3, FP.fconst0))
def f_X10_paid (μ : fw_M) (x1 : Int32) : Option (fw_M × UInt32) :=
  fw_b1 (f_X10_isClient μ x1) (fun r1 =>
  if r1 = 0 then
    f_X10_paid_J13 μ x1 (1 : Int32)
  else
    f_X10_paid_J13 μ x1 (0 : Int32))
def f_X10_paidBits_J13 (μ : fw_M) (x1 : Int32) (s1 : Int32) : Option (fw_M × Int32) :=
  fw_l (fw_u μ 0 18 0 s1) (fun μ3 =>
  if (μ3 0 18 0) ≤ 0 then
    fw_g (fw_in ((100 : Int32) + x1) 104) (
    some (μ3, (μ3 0 19 ((100 : Int32) + x1).toNatClampNeg)))
  else
    some (μ3, (0 : Int32)))
def f_X10_paidBits (μ : fw_M) (x1 : Int32) : Option (fw_M × Int32) :=
  fw_b1 (f_X10_isClient μ x1) (fun r1 =>
  if r1 = 0 then
    f_X10_paidBits_J13 μ x1 (1 : Int32)
  else
    f_X10_paidBits_J13 μ x1 (0 : Int32))
def f_X10_packed_J14 (μ : fw_M) (x1 : Int32) (s1 : Int32) : Option (fw_M × Int64) :=
  fw_l (fw_u μ 0 18 0 s1) (fun μ3 =>
  if (μ3 0 18 0) ≤ 0 then
    fw_b1 (f_X10_of μ3 x1 (3 : Int32)) (fun r5 =>
    fw_b1 (f_X10_of μ3 x1 (2 : Int32)) (fun r6 =>
    fw_b1 (f_X10_of μ3 x1 (0 : Int32)) (fun r7 =>
    fw_b1 (f_X10_of μ3 x1 (1 : Int32)) (fun r8 =>
    fw_b1 (f_X10_of μ3 x1 (4 : Int32)) (fun r9 =>
    fw_l (((((r5 ||| (r6 <<< ((8 : Int32) &&& (31 : Int32)))) ||| (r7 <<< ((11 : Int32) &&& (31 : Int32)))) ||| (r8 <<< ((13 : Int32) &&& (31 : Int32)))) ||| (r9 <<< ((14 : Int32) &&& (31 : Int32)))).toInt64) (fun y10 =>
    fw_b1 (f_X10_of μ3 x1 (5 : Int32)) (fun r11 =>
    some (μ3, (y10 ||| (r11.toInt64 <<< ((16 : Int32).toInt64 &&& (63 : Int64))))))))))))
  else
    some (μ3, (0 : Int64)))
def f_X10_packed (μ : fw_M) (x1 : Int32) : Option (fw_M × Int64) :=
  fw_b1 (f_X10_isGarment μ x1) (fun r1 =>
  if r1 = 0 then
    f_X10_packed_J14 μ x1 (1 : Int32)
  else
    f_X10_packed_J14 μ x1 (0 : Int32))
def f_X10_runCount (μ : fw_M) : Option (fw_M × Int32) :=
  fw_l (fw_u μ 0 18 0 (0 : Int32)) (fun μ1 =>
  some (μ1, (μ1 0 19 (1 : Int32).toNatClampNeg)))
def f_X10_isHere (μ : fw_M) (x1 : Int32) : Option Int32 :=
  fw_b1 (f_X10_of μ x1 (4 : Int32)) (fun r1 =>
  if r1 = (3 : Int32) then
    some (0 : Int32)
  else
    some (1 : Int32))
def f_X10_dirtiest_L33 (K7 : fw_M → Int32 → Int32 → Option (fw_M × Int32)) : Nat → fw_M → Int32 → Int32 → Int32 → Int32 → Option (fw_M × Int32)
  | 0, _, _, _, _, _ => none
  | n + 1, μ, x1, x2, x3, x4 =>
    if (μ 0 19 (0 : Int32).toNatClampNeg) ≤ x4 then
      if x3 = x1 then
        some (μ, x2)
      else
        K7 μ x1 (x2 + (1 : Int32))
    else
      fw_b1 (f_X10_of μ x4 (3 : Int32)) (fun r8 =>
      fw_b1 (f_X10_bits μ r8) (fun r9 =>
      fw_b1 (f_X10_of μ x2 (3 : Int32)) (fun r10 =>
      fw_b1 (f_X10_bits μ r10) (fun r11 =>
      fw_b1 (f_X10_isHere μ x4) (fun r12 =>
      if r12 = 0 then
        f_X10_dirtiest_L33 K7 n μ x1 x2 (x3 + (0 : Int32)) (x4 + (1 : Int32))
      else
        if 0 < (r9 - r11) then
          f_X10_dirtiest_L33 K7 n μ x1 x2 (x3 + (1 : Int32)) (x4 + (1 : Int32))
        else
          if (r9 - r11) = 0 then
            if x2 ≤ x4 then
              f_X10_dirtiest_L33 K7 n μ x1 x2 (x3 + (0 : Int32)) (x4 + (1 : Int32))
            else
              f_X10_dirtiest_L33 K7 n μ x1 x2 (x3 + (1 : Int32)) (x4 + (1 : Int32))
          else
            f_X10_dirtiest_L33 K7 n μ x1 x2 (x3 + (0 : Int32)) (x4 + (1 : Int32)))))))
def f_X10_dirtiest_L7 : Nat → fw_M → Int32 → Int32 → Option (fw_M × Int32)
  | 0, _, _, _ => none
  | n + 1, μ, x1, x2 =>
    if (μ 0 19 (0 : Int32).toNatClampNeg) ≤ x2 then
      fw_b2 (f_X10_fails μ (1 : Int32)) (fun μ3 r3 =>
      some (μ3, r3))
    else
      fw_b1 (f_X10_isHere μ x2) (fun r4 =>
      if r4 = 0 then
        f_X10_dirtiest_L7 n μ x1 (x2 + (1 : Int32))
      else
        f_X10_dirtiest_L33 (f_X10_dirtiest_L7 n) 1000 μ x1 x2 (0 : Int32) (0 : Int32))
def f_X10_dirtiest (μ : fw_M) (x1 : Int32) : Option (fw_M × Int32) :=
  fw_l (fw_u μ 0 18 0 (0 : Int32)) (fun μ1 =>
  f_X10_dirtiest_L7 1000 μ1 x1 (0 : Int32))
def f_X10_spender_L17 (K7 : fw_M → Int32 → Int32 → Option (fw_M × Int32)) : Nat → fw_M → Int32 → Int32 → Int32 → Int32 → Option (fw_M × Int32)
  | 0, _, _, _, _, _ => none
  | n + 1, μ, x1, x2, x3, x4 =>
    if (4 : Int32) ≤ x4 then
      if x3 = x1 then
        some (μ, x2)
      else
        K7 μ x1 (x2 + (1 : Int32))
    else
      fw_b1 (f_X10_sumOf μ x4) (fun r6 =>
      fw_b1 (f_X10_sumOf μ x2) (fun r7 =>
      if 0 < (Op.cmpValue (FP.fcmp r6 r7) CmpOp.l) then
        f_X10_spender_L17 K7 n μ x1 x2 (x3 + (1 : Int32)) (x4 + (1 : Int32))
      else
        fw_b1 (f_X10_sumOf μ x4) (fun r9 =>
        fw_b1 (f_X10_sumOf μ x2) (fun r10 =>
        if (Op.cmpValue (FP.fcmp r9 r10) CmpOp.l) = 0 then
          if x2 ≤ x4 then
            f_X10_spender_L17 K7 n μ x1 x2 (x3 + (0 : Int32)) (x4 + (1 : Int32))
          else
            f_X10_spender_L17 K7 n μ x1 x2 (x3 + (1 : Int32)) (x4 + (1 : Int32))
        else
          f_X10_spender_L17 K7 n μ x1 x2 (x3 + (0 : Int32)) (x4 + (1 : Int32))))))
def f_X10_spender_L7 : Nat → fw_M → Int32 → Int32 → Option (fw_M × Int32)
  | 0, _, _, _ => none
  | n + 1, μ, x1, x2 =>
    if (4 : Int32) ≤ x2 then
      fw_b2 (f_X10_fails μ (1 : Int32)) (fun μ3 r3 =>
      some (μ3, r3))
    else
      f_X10_spender_L17 (f_X10_spender_L7 n) 1000 μ x1 x2 (0 : Int32) (0 : Int32)
def f_X10_spender (μ : fw_M) (x1 : Int32) : Option (fw_M × Int32) :=
  fw_l (fw_u μ 0 18 0 (0 : Int32)) (fun μ1 =>
  f_X10_spender_L7 1000 μ1 x1 (0 : Int32))
def f_X10_meanStains_J30 (K6 : fw_M → Int32 → Int32 → Int32 → Option (fw_M × UInt64)) (μ : fw_M) (x2 : Int32) (x3 : Int32) (s0 : Int32) (s1 : Int32) : Option (fw_M × UInt64) :=
  fw_b1 (f_X10_isHere μ x3) (fun r8 =>
  if r8 = 0 then
    K6 μ (s0 + s1) (x2 + (0 : Int32)) (x3 + (1 : Int32))
  else
    fw_b1 (f_X10_of μ x3 (3 : Int32)) (fun r10 =>
    fw_b1 (f_X10_bits μ r10) (fun r11 =>
    K6 μ (s0 + s1) (x2 + r11) (x3 + (1 : Int32)))))
def f_X10_meanStains_J72 (μ : fw_M) (x1 : Int32) (x2 : Int32) (s1 : Int32) : Option (fw_M × UInt64) :=
  fw_l (fw_u μ 0 18 0 s1) (fun μ5 =>
  if (μ5 0 18 0) ≤ 0 then
    fw_g (fw_f64 (FP.ddiv (FP.i2d x2) (FP.i2d x1))) (
    some (μ5, (FP.ddiv (FP.i2d x2) (FP.i2d x1))))
  else
    some (μ5, FP.dconst0))
def f_X10_meanStains_L6 : Nat → fw_M → Int32 → Int32 → Int32 → Option (fw_M × UInt64)
  | 0, _, _, _, _ => none
  | n + 1, μ, x1, x2, x3 =>
    if (μ 0 19 (0 : Int32).toNatClampNeg) ≤ x3 then
      if x1 = 0 then
        f_X10_meanStains_J72 μ x1 x2 (1 : Int32)
      else
        f_X10_meanStains_J72 μ x1 x2 (0 : Int32)
    else
      fw_b1 (f_X10_isHere μ x3) (fun r3 =>
      if r3 = 0 then
        f_X10_meanStains_J30 (f_X10_meanStains_L6 n) μ x2 x3 x1 (0 : Int32)
      else
        f_X10_meanStains_J30 (f_X10_meanStains_L6 n) μ x2 x3 x1 (1 : Int32))
def f_X10_meanStains (μ : fw_M) : Option (fw_M × UInt64) :=
  f_X10_meanStains_L6 1000 μ (0 : Int32) (0 : Int32) (0 : Int32)
def f_X10_lostShare_L31 : Nat → fw_M → Int32 → Int32 → Option (fw_M × UInt32)
  | 0, _, _, _ => none
  | n + 1, μ, x1, x2 =>
    if (μ 0 19 (0 : Int32).toNatClampNeg) ≤ x2 then
      fw_g (fw_f32 (FP.fdiv (FP.i2f x1) (FP.i2f (μ 0 19 (0 : Int32).toNatClampNeg)))) (
      some (μ, (FP.fdiv (FP.i2f x1) (FP.i2f (μ 0 19 (0 : Int32).toNatClampNeg)))))
    else
      fw_b1 (f_X10_isHere μ x2) (fun r6 =>
      if r6 = 0 then
        f_X10_lostShare_L31 n μ (x1 + (1 : Int32)) (x2 + (1 : Int32))
      else
        f_X10_lostShare_L31 n μ (x1 + (0 : Int32)) (x2 + (1 : Int32)))
def f_X10_lostShare_J15 (μ : fw_M) (s1 : Int32) : Option (fw_M × UInt32) :=
  fw_l (fw_u μ 0 18 0 s1) (fun μ2 =>
  if (μ2 0 18 0) ≤ 0 then
    f_X10_lostShare_L31 1000 μ2 (0 : Int32) (0 : Int32)
  else
    some (μ2, FP.fconst0))
def f_X10_lostShare (μ : fw_M) : Option (fw_M × UInt32) :=
  if (μ 0 19 (0 : Int32).toNatClampNeg) = 0 then
    f_X10_lostShare_J15 μ (1 : Int32)
  else
    f_X10_lostShare_J15 μ (0 : Int32)
def f_X10_isConsistent (μ : fw_M) : Option (fw_M × Int32) :=
  fw_l (fw_u μ 0 18 0 (0 : Int32)) (fun μ1 =>
  some (μ1, (1 : Int32)))
def f_X10_feed_J15 (μ : fw_M) (x1 : Int32) (s1 : Int32) : Option (fw_M × Int32) :=
  fw_l (fw_u μ 0 18 0 s1) (fun μ2 =>
  if (μ2 0 18 0) ≤ 0 then
    fw_g (fw_in (μ2 0 18 11) 60) (
    fw_l (fw_u μ2 0 23 (μ2 0 18 11).toNatClampNeg x1) (fun μ5 =>
    fw_l (fw_u μ5 0 18 11 ((μ5 0 18 11) + (1 : Int32))) (fun μ6 =>
    some (μ6, (μ6 0 18 11)))))
  else
    some (μ2, (0 : Int32)))
def f_X10_feed (μ : fw_M) (x1 : Int32) : Option (fw_M × Int32) :=
  if (μ 0 18 11) = (60 : Int32) then
    f_X10_feed_J15 μ x1 (1 : Int32)
  else
    f_X10_feed_J15 μ x1 (0 : Int32)
def f_X10_here (μ : fw_M) (x1 : Int32) : Option Int32 :=
  if (μ 0 18 17) ≤ ((μ 0 18 16) + x1) then
    some (-1 : Int32)
  else
    fw_g (fw_in ((μ 0 18 16) + x1) 60) (
    some (μ 0 23 ((μ 0 18 16) + x1).toNatClampNeg))
def f_X10_errorPosition (μ : fw_M) : Option (fw_M × Int32) :=
  fw_l (fw_u μ 0 18 0 (0 : Int32)) (fun μ1 =>
  if (μ1 0 18 13) = (-1 : Int32) then
    fw_b2 (f_X10_fails μ1 (1 : Int32)) (fun μ3 r3 =>
    some (μ3, r3))
  else
    some (μ1, (μ1 0 18 13)))
def f_X10_failedCommand (μ : fw_M) : Option (fw_M × Int32) :=
  fw_l (fw_u μ 0 18 0 (0 : Int32)) (fun μ1 =>
  if (μ1 0 18 14) = (-1 : Int32) then
    fw_b2 (f_X10_fails μ1 (1 : Int32)) (fun μ3 r3 =>
    some (μ3, r3))
  else
    some (μ1, (μ1 0 18 14)))
def f_X10_writes (μ : fw_M) (x1 : Int32) : Option (fw_M × Unit) :=
  fw_g (fw_in (μ 0 18 12) 200) (
  fw_l (fw_u μ 0 25 (μ 0 18 12).toNatClampNeg x1) (fun μ2 =>
  fw_l (fw_u μ2 0 18 12 ((μ2 0 18 12) + (1 : Int32))) (fun μ3 =>
  some (μ3, ()))))
def f_X10_writeBag_L121 (K32 : fw_M → Int32 → Int32 → Option (fw_M × Int32)) : Nat → fw_M → Int32 → Int32 → Int32 → Option (fw_M × Int32)
  | 0, _, _, _, _ => none
  | n + 1, μ, x1, x2, x3 =>
    if x3 ≤ 0 then
      K32 μ x1 (x2 + (1 : Int32))
    else
      fw_b2 (f_X10_writes μ (42 : Int32)) (fun μ21 r21 =>
      f_X10_writeBag_L121 K32 n μ21 x1 x2 (x3 + (-1 : Int32)))
def f_X10_writeBag_J95 (K32 : fw_M → Int32 → Int32 → Option (fw_M × Int32)) (μ : fw_M) (x1 : Int32) (x2 : Int32) (s1 : Int32) : Option (fw_M × Int32) :=
  fw_b2 (f_X10_writes μ s1) (fun μ15 r15 =>
  fw_b1 (f_X10_of μ15 x2 (2 : Int32)) (fun r16 =>
  fw_b2 (f_X10_writes μ15 ((48 : Int32) + r16)) (fun μ17 r17 =>
  fw_b1 (f_X10_of μ17 x2 (3 : Int32)) (fun r18 =>
  fw_b1 (f_X10_bits μ17 r18) (fun r19 =>
  f_X10_writeBag_L121 K32 1000 μ17 x1 x2 r19)))))
def f_X10_writeBag_J77 (K32 : fw_M → Int32 → Int32 → Option (fw_M × Int32)) (μ : fw_M) (x1 : Int32) (x2 : Int32) : Option (fw_M × Int32) :=
  fw_b1 (f_X10_of μ x2 (1 : Int32)) (fun r13 =>
  if r13 = (1 : Int32) then
    f_X10_writeBag_J95 K32 μ x1 x2 (115 : Int32)
  else
    f_X10_writeBag_J95 K32 μ x1 x2 (103 : Int32))
def f_X10_writeBag_L32 : Nat → fw_M → Int32 → Int32 → Option (fw_M × Int32)
  | 0, _, _, _ => none
  | n + 1, μ, x1, x2 =>
    if (μ 0 19 (0 : Int32).toNatClampNeg) ≤ x2 then
      some (μ, (μ 0 18 12))
    else
      fw_b1 (f_X10_of μ x2 (4 : Int32)) (fun r7 =>
      if r7 = 0 then
        fw_b1 (f_X10_of μ x2 (0 : Int32)) (fun r9 =>
        if r9 = x1 then
          if (μ 0 18 12) ≤ 0 then
            f_X10_writeBag_J77 (f_X10_writeBag_L32 n) μ x1 x2
          else
            fw_b2 (f_X10_writes μ (32 : Int32)) (fun μ12 r12 =>
            f_X10_writeBag_J77 (f_X10_writeBag_L32 n) μ12 x1 x2)
        else
          f_X10_writeBag_L32 n μ x1 (x2 + (1 : Int32)))
      else
        f_X10_writeBag_L32 n μ x1 (x2 + (1 : Int32)))
def f_X10_writeBag_J13 (μ : fw_M) (x1 : Int32) (s1 : Int32) : Option (fw_M × Int32) :=
  fw_l (fw_u μ 0 18 0 s1) (fun μ3 =>
  if (μ3 0 18 0) ≤ 0 then
    fw_l (fw_u μ3 0 18 12 (0 : Int32)) (fun μ5 =>
    f_X10_writeBag_L32 1000 μ5 x1 (0 : Int32))
  else
    some (μ3, (0 : Int32)))
def f_X10_writeBag (μ : fw_M) (x1 : Int32) : Option (fw_M × Int32) :=
  fw_b1 (f_X10_isClient μ x1) (fun r1 =>
  if r1 = 0 then
    f_X10_writeBag_J13 μ x1 (1 : Int32)
  else
    f_X10_writeBag_J13 μ x1 (0 : Int32))
def f_X10_outputChar_J20 (μ : fw_M) (x1 : Int32) (s1 : Int32) : Option (fw_M × Int32) :=
  fw_l (fw_u μ 0 18 0 s1) (fun μ3 =>
  if (μ3 0 18 0) ≤ 0 then
    fw_g (fw_in x1 200) (
    some (μ3, (((μ3 0 25 x1.toNatClampNeg).toUInt32 % 65536).toInt32)))
  else
    some (μ3, (0 : Int32)))
def f_X10_outputChar (μ : fw_M) (x1 : Int32) : Option (fw_M × Int32) :=
  fw_b1 (f_X10_in μ x1 (0 : Int32) ((μ 0 18 12) - (1 : Int32))) (fun r1 =>
  if r1 = 0 then
    f_X10_outputChar_J20 μ x1 (1 : Int32)
  else
    f_X10_outputChar_J20 μ x1 (0 : Int32))
def f_X10_undoCount (μ : fw_M) : Option (fw_M × Int32) :=
  fw_l (fw_u μ 0 18 0 (0 : Int32)) (fun μ1 =>
  some (μ1, (μ1 0 18 5)))
def f_X10_undo_L30 : Nat → fw_M → Int32 → Option (fw_M × Int32)
  | 0, _, _ => none
  | n + 1, μ, x1 =>
    if (104 : Int32) ≤ x1 then
      some (μ, (μ 0 18 5))
    else
      fw_g (fw_in (((104 : Int32) * (μ 0 18 5)) + x1) 832) (
      fw_g (fw_in x1 104) (
      fw_l (fw_u μ 0 19 x1.toNatClampNeg (μ 0 22 (((104 : Int32) * (μ 0 18 5)) + x1).toNatClampNeg)) (fun μ8 =>
      f_X10_undo_L30 n μ8 (x1 + (1 : Int32)))))
def f_X10_undo (μ : fw_M) : Option (fw_M × Int32) :=
  fw_l (fw_u μ 0 18 0 (0 : Int32)) (fun μ1 =>
  if (μ1 0 18 5) = 0 then
    fw_b2 (f_X10_fails μ1 (1 : Int32)) (fun μ3 r3 =>
    some (μ3, r3))
  else
    fw_l (fw_u μ1 0 18 5 ((μ1 0 18 5) - (1 : Int32))) (fun μ4 =>
    f_X10_undo_L30 1000 μ4 (0 : Int32)))
def f_X10_save_L7 : Nat → fw_M → Int32 → Option (fw_M × Int32)
  | 0, _, _ => none
  | n + 1, μ, x1 =>
    if (104 : Int32) ≤ x1 then
      fw_l (fw_u μ 0 18 6 (1 : Int32)) (fun μ3 =>
      some (μ3, (μ3 0 19 (0 : Int32).toNatClampNeg)))
    else
      fw_g (fw_in x1 104) (
      fw_l (fw_u μ 0 21 x1.toNatClampNeg (μ 0 19 x1.toNatClampNeg)) (fun μ5 =>
      f_X10_save_L7 n μ5 (x1 + (1 : Int32))))
def f_X10_save (μ : fw_M) : Option (fw_M × Int32) :=
  fw_l (fw_u μ 0 18 0 (0 : Int32)) (fun μ1 =>
  f_X10_save_L7 1000 μ1 (0 : Int32))
def f_X10_restore_L20 : Nat → fw_M → Int32 → Option (fw_M × Int32)
  | 0, _, _ => none
  | n + 1, μ, x1 =>
    if (104 : Int32) ≤ x1 then
      fw_l (fw_u μ 0 18 5 (0 : Int32)) (fun μ5 =>
      some (μ5, (μ5 0 19 (0 : Int32).toNatClampNeg)))
    else
      fw_g (fw_in x1 104) (
      fw_l (fw_u μ 0 19 x1.toNatClampNeg (μ 0 21 x1.toNatClampNeg)) (fun μ7 =>
      f_X10_restore_L20 n μ7 (x1 + (1 : Int32))))
def f_X10_restore (μ : fw_M) : Option (fw_M × Int32) :=
  fw_l (fw_u μ 0 18 0 (0 : Int32)) (fun μ1 =>
  if (μ1 0 18 6) = 0 then
    fw_b2 (f_X10_fails μ1 (1 : Int32)) (fun μ3 r3 =>
    some (μ3, r3))
  else
    f_X10_restore_L20 1000 μ1 (0 : Int32))
