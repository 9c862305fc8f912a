/-! the law's cases, laid by wip/whole/lay3.py -/
def f_law_C248 (K : fw_M → Int64 → UInt64 → Int32 → Option Unit) (xs : Nat → Int32) (L : Nat) (μ : fw_M) (o : Int64) (d : UInt64) (x5 : Int32) : Option Unit :=
  fw_g (fw_in (x5 + (1 : Int32)) L) (
  fw_g (fw_in (x5 + (2 : Int32)) L) (
  if (xs (x5 + (2 : Int32)).toNatClampNeg) = 0 then
    fw_g (fw_in (x5 + (3 : Int32)) L) (
    fw_g (fw_in (x5 + (4 : Int32)) L) (
    fw_b4 (f_L_bring μ o d (xs (x5 + (1 : Int32)).toNatClampNeg) (0 : Int32) (xs (x5 + (3 : Int32)).toNatClampNeg) (xs (x5 + (4 : Int32)).toNatClampNeg)) (fun μ6 o6 d6 r6 =>
    if (xs (x5 + (2 : Int32)).toNatClampNeg) = 0 then
      fw_b2 (f_X10_bring μ6 (xs (x5 + (1 : Int32)).toNatClampNeg) (0 : Int32) (xs (x5 + (3 : Int32)).toNatClampNeg) (xs (x5 + (4 : Int32)).toNatClampNeg)) (fun μ8 r8 =>
      fw_b1 (f_X10_thrown μ8) (fun r9 =>
      if r9 = r6 then
        if r6 = 0 then
          if (lg_cmp o6 r8.toInt64) = 0 then
            K μ8 o6 d6 (x5 + (5 : Int32))
          else
            none
        else
          K μ8 o6 d6 (x5 + (5 : Int32))
      else
        none))
    else
      fw_b2 (f_X10_bring μ6 (xs (x5 + (1 : Int32)).toNatClampNeg) (1 : Int32) (xs (x5 + (3 : Int32)).toNatClampNeg) (xs (x5 + (4 : Int32)).toNatClampNeg)) (fun μ13 r13 =>
      fw_b1 (f_X10_thrown μ13) (fun r14 =>
      if r14 = r6 then
        if r6 = 0 then
          if (lg_cmp o6 r13.toInt64) = 0 then
            K μ13 o6 d6 (x5 + (5 : Int32))
          else
            none
        else
          K μ13 o6 d6 (x5 + (5 : Int32))
      else
        none)))))
  else
    fw_g (fw_in (x5 + (3 : Int32)) L) (
    fw_g (fw_in (x5 + (4 : Int32)) L) (
    fw_b4 (f_L_bring μ o d (xs (x5 + (1 : Int32)).toNatClampNeg) (1 : Int32) (xs (x5 + (3 : Int32)).toNatClampNeg) (xs (x5 + (4 : Int32)).toNatClampNeg)) (fun μ20 o20 d20 r20 =>
    if (xs (x5 + (2 : Int32)).toNatClampNeg) = 0 then
      fw_b2 (f_X10_bring μ20 (xs (x5 + (1 : Int32)).toNatClampNeg) (0 : Int32) (xs (x5 + (3 : Int32)).toNatClampNeg) (xs (x5 + (4 : Int32)).toNatClampNeg)) (fun μ22 r22 =>
      fw_b1 (f_X10_thrown μ22) (fun r23 =>
      if r23 = r20 then
        if r20 = 0 then
          if (lg_cmp o20 r22.toInt64) = 0 then
            K μ22 o20 d20 (x5 + (5 : Int32))
          else
            none
        else
          K μ22 o20 d20 (x5 + (5 : Int32))
      else
        none))
    else
      fw_b2 (f_X10_bring μ20 (xs (x5 + (1 : Int32)).toNatClampNeg) (1 : Int32) (xs (x5 + (3 : Int32)).toNatClampNeg) (xs (x5 + (4 : Int32)).toNatClampNeg)) (fun μ27 r27 =>
      fw_b1 (f_X10_thrown μ27) (fun r28 =>
      if r28 = r20 then
        if r20 = 0 then
          if (lg_cmp o20 r27.toInt64) = 0 then
            K μ27 o20 d20 (x5 + (5 : Int32))
          else
            none
        else
          K μ27 o20 d20 (x5 + (5 : Int32))
      else
        none)))))))
def f_law_C356 (K : fw_M → Int64 → UInt64 → Int32 → Option Unit) (xs : Nat → Int32) (L : Nat) (μ : fw_M) (o : Int64) (d : UInt64) (x5 : Int32) : Option Unit :=
  fw_g (fw_in (x5 + (1 : Int32)) L) (
  fw_g (fw_in (x5 + (2 : Int32)) L) (
  fw_b4 (f_L_load μ o d (xs (x5 + (1 : Int32)).toNatClampNeg) (xs (x5 + (2 : Int32)).toNatClampNeg)) (fun μ34 o34 d34 r34 =>
  fw_b2 (f_X10_load μ34 (xs (x5 + (1 : Int32)).toNatClampNeg) (xs (x5 + (2 : Int32)).toNatClampNeg)) (fun μ35 r35 =>
  fw_b1 (f_X10_thrown μ35) (fun r36 =>
  if r36 = r34 then
    if r34 = 0 then
      if (lg_cmp o34 r35.toInt64) = 0 then
        K μ35 o34 d34 (x5 + (5 : Int32))
      else
        none
    else
      K μ35 o34 d34 (x5 + (5 : Int32))
  else
    none)))))
def f_law_C424 (K : fw_M → Int64 → UInt64 → Int32 → Option Unit) (xs : Nat → Int32) (L : Nat) (μ : fw_M) (o : Int64) (d : UInt64) (x5 : Int32) : Option Unit :=
  fw_g (fw_in (x5 + (1 : Int32)) L) (
  fw_b4 (f_L_takeOut μ o d (xs (x5 + (1 : Int32)).toNatClampNeg)) (fun μ41 o41 d41 r41 =>
  fw_b2 (f_X10_takeOut μ41 (xs (x5 + (1 : Int32)).toNatClampNeg)) (fun μ42 r42 =>
  fw_b1 (f_X10_thrown μ42) (fun r43 =>
  if r43 = r41 then
    if r41 = 0 then
      if (lg_cmp o41 r42.toInt64) = 0 then
        K μ42 o41 d41 (x5 + (5 : Int32))
      else
        none
    else
      K μ42 o41 d41 (x5 + (5 : Int32))
  else
    none))))
def f_law_C480 (K : fw_M → Int64 → UInt64 → Int32 → Option Unit) (xs : Nat → Int32) (L : Nat) (μ : fw_M) (o : Int64) (d : UInt64) (x5 : Int32) : Option Unit :=
  fw_g (fw_in (x5 + (1 : Int32)) L) (
  fw_g (fw_in (x5 + (2 : Int32)) L) (
  fw_b4 (f_L_setTemperature μ o d (xs (x5 + (1 : Int32)).toNatClampNeg) (xs (x5 + (2 : Int32)).toNatClampNeg)) (fun μ49 o49 d49 r49 =>
  fw_b2 (f_X10_setTemperature μ49 (xs (x5 + (1 : Int32)).toNatClampNeg) (xs (x5 + (2 : Int32)).toNatClampNeg)) (fun μ50 r50 =>
  fw_b1 (f_X10_thrown μ50) (fun r51 =>
  if r51 = r49 then
    if r49 = 0 then
      fw_g (fw_f64 (FP.f2d r50)) (
      if (Op.cmpValue (FP.dcmp d49 (FP.f2d r50)) CmpOp.l) = 0 then
        K μ50 o49 d49 (x5 + (5 : Int32))
      else
        if (Op.cmpValue (FP.dcmp d49 d49) CmpOp.l) = 0 then
          none
        else
          if (Op.cmpValue (FP.fcmp r50 r50) CmpOp.l) = 0 then
            none
          else
            K μ50 o49 d49 (x5 + (5 : Int32)))
    else
      K μ50 o49 d49 (x5 + (5 : Int32))
  else
    none)))))
def f_law_C570 (K : fw_M → Int64 → UInt64 → Int32 → Option Unit) (xs : Nat → Int32) (L : Nat) (μ : fw_M) (o : Int64) (d : UInt64) (x5 : Int32) : Option Unit :=
  fw_g (fw_in (x5 + (1 : Int32)) L) (
  fw_b4 (f_L_run μ o d (xs (x5 + (1 : Int32)).toNatClampNeg)) (fun μ59 o59 d59 r59 =>
  fw_b2 (f_X10_run μ59 (xs (x5 + (1 : Int32)).toNatClampNeg)) (fun μ60 r60 =>
  fw_b1 (f_X10_thrown μ60) (fun r61 =>
  if r61 = r59 then
    if r59 = 0 then
      if (lg_cmp o59 r60.toInt64) = 0 then
        K μ60 o59 d59 (x5 + (5 : Int32))
      else
        none
    else
      K μ60 o59 d59 (x5 + (5 : Int32))
  else
    none))))
def f_law_C626 (K : fw_M → Int64 → UInt64 → Int32 → Option Unit) (xs : Nat → Int32) (L : Nat) (μ : fw_M) (o : Int64) (d : UInt64) (x5 : Int32) : Option Unit :=
  fw_b1 (f_X9_garmentCount μ) (fun r65 =>
  fw_b2 (f_X10_garmentCount μ) (fun μ66 r66 =>
  if r65 = r66 then
    K μ66 o d (x5 + (5 : Int32))
  else
    none))
def f_law_C639 (K : fw_M → Int64 → UInt64 → Int32 → Option Unit) (xs : Nat → Int32) (L : Nat) (μ : fw_M) (o : Int64) (d : UInt64) (x5 : Int32) : Option Unit :=
  fw_g (fw_in (x5 + (1 : Int32)) L) (
  fw_b4 (f_L_client μ o d (xs (x5 + (1 : Int32)).toNatClampNeg)) (fun μ69 o69 d69 r69 =>
  fw_b2 (f_X10_client μ69 (xs (x5 + (1 : Int32)).toNatClampNeg)) (fun μ70 r70 =>
  fw_b1 (f_X10_thrown μ70) (fun r71 =>
  if r71 = r69 then
    if r69 = 0 then
      if (lg_cmp o69 r70.toInt64) = 0 then
        K μ70 o69 d69 (x5 + (5 : Int32))
      else
        none
    else
      K μ70 o69 d69 (x5 + (5 : Int32))
  else
    none))))
def f_law_C695 (K : fw_M → Int64 → UInt64 → Int32 → Option Unit) (xs : Nat → Int32) (L : Nat) (μ : fw_M) (o : Int64) (d : UInt64) (x5 : Int32) : Option Unit :=
  fw_g (fw_in (x5 + (1 : Int32)) L) (
  fw_b4 (f_L_isSock μ o d (xs (x5 + (1 : Int32)).toNatClampNeg)) (fun μ76 o76 d76 r76 =>
  fw_b2 (f_X10_isSock μ76 (xs (x5 + (1 : Int32)).toNatClampNeg)) (fun μ77 r77 =>
  fw_b1 (f_X10_thrown μ77) (fun r78 =>
  if r78 = r76 then
    if r76 = 0 then
      if r77 = 0 then
        if (lg_cmp o76 (0 : Int64)) = 0 then
          K μ77 o76 d76 (x5 + (5 : Int32))
        else
          none
      else
        if (lg_cmp o76 (1 : Int64)) = 0 then
          K μ77 o76 d76 (x5 + (5 : Int32))
        else
          none
    else
      K μ77 o76 d76 (x5 + (5 : Int32))
  else
    none))))
def f_law_C758 (K : fw_M → Int64 → UInt64 → Int32 → Option Unit) (xs : Nat → Int32) (L : Nat) (μ : fw_M) (o : Int64) (d : UInt64) (x5 : Int32) : Option Unit :=
  fw_g (fw_in (x5 + (1 : Int32)) L) (
  fw_b4 (f_L_colour μ o d (xs (x5 + (1 : Int32)).toNatClampNeg)) (fun μ85 o85 d85 r85 =>
  fw_b2 (f_X10_colour μ85 (xs (x5 + (1 : Int32)).toNatClampNeg)) (fun μ86 r86 =>
  fw_b1 (f_X10_thrown μ86) (fun r87 =>
  if r87 = r85 then
    if r85 = 0 then
      if (lg_cmp o85 r86.toInt64) = 0 then
        K μ86 o85 d85 (x5 + (5 : Int32))
      else
        none
    else
      K μ86 o85 d85 (x5 + (5 : Int32))
  else
    none))))
def f_law_C814 (K : fw_M → Int64 → UInt64 → Int32 → Option Unit) (xs : Nat → Int32) (L : Nat) (μ : fw_M) (o : Int64) (d : UInt64) (x5 : Int32) : Option Unit :=
  fw_g (fw_in (x5 + (1 : Int32)) L) (
  fw_b4 (f_L_stains μ o d (xs (x5 + (1 : Int32)).toNatClampNeg)) (fun μ92 o92 d92 r92 =>
  fw_b2 (f_X10_stains μ92 (xs (x5 + (1 : Int32)).toNatClampNeg)) (fun μ93 r93 =>
  fw_b1 (f_X10_thrown μ93) (fun r94 =>
  if r94 = r92 then
    if r92 = 0 then
      if (lg_cmp o92 r93.toInt64) = 0 then
        K μ93 o92 d92 (x5 + (5 : Int32))
      else
        none
    else
      K μ93 o92 d92 (x5 + (5 : Int32))
  else
    none))))
def f_law_C870 (K : fw_M → Int64 → UInt64 → Int32 → Option Unit) (xs : Nat → Int32) (L : Nat) (μ : fw_M) (o : Int64) (d : UInt64) (x5 : Int32) : Option Unit :=
  fw_g (fw_in (x5 + (1 : Int32)) L) (
  fw_b4 (f_L_stainCount μ o d (xs (x5 + (1 : Int32)).toNatClampNeg)) (fun μ99 o99 d99 r99 =>
  fw_b2 (f_X10_stainCount μ99 (xs (x5 + (1 : Int32)).toNatClampNeg)) (fun μ100 r100 =>
  fw_b1 (f_X10_thrown μ100) (fun r101 =>
  if r101 = r99 then
    if r99 = 0 then
      if (lg_cmp o99 r100.toInt64) = 0 then
        K μ100 o99 d99 (x5 + (5 : Int32))
      else
        none
    else
      K μ100 o99 d99 (x5 + (5 : Int32))
  else
    none))))
def f_law_C926 (K : fw_M → Int64 → UInt64 → Int32 → Option Unit) (xs : Nat → Int32) (L : Nat) (μ : fw_M) (o : Int64) (d : UInt64) (x5 : Int32) : Option Unit :=
  fw_g (fw_in (x5 + (1 : Int32)) L) (
  fw_b4 (f_L_place μ o d (xs (x5 + (1 : Int32)).toNatClampNeg)) (fun μ106 o106 d106 r106 =>
  fw_b2 (f_X10_place μ106 (xs (x5 + (1 : Int32)).toNatClampNeg)) (fun μ107 r107 =>
  fw_b1 (f_X10_thrown μ107) (fun r108 =>
  if r108 = r106 then
    if r106 = 0 then
      if (lg_cmp o106 r107.toInt64) = 0 then
        K μ107 o106 d106 (x5 + (5 : Int32))
      else
        none
    else
      K μ107 o106 d106 (x5 + (5 : Int32))
  else
    none))))
def f_law_C982 (K : fw_M → Int64 → UInt64 → Int32 → Option Unit) (xs : Nat → Int32) (L : Nat) (μ : fw_M) (o : Int64) (d : UInt64) (x5 : Int32) : Option Unit :=
  fw_g (fw_in (x5 + (1 : Int32)) L) (
  fw_b4 (f_L_washes μ o d (xs (x5 + (1 : Int32)).toNatClampNeg)) (fun μ113 o113 d113 r113 =>
  fw_b2 (f_X10_washes μ113 (xs (x5 + (1 : Int32)).toNatClampNeg)) (fun μ114 r114 =>
  fw_b1 (f_X10_thrown μ114) (fun r115 =>
  if r115 = r113 then
    if r113 = 0 then
      if (lg_cmp o113 r114.toInt64) = 0 then
        K μ114 o113 d113 (x5 + (5 : Int32))
      else
        none
    else
      K μ114 o113 d113 (x5 + (5 : Int32))
  else
    none))))
def f_law_C1038 (K : fw_M → Int64 → UInt64 → Int32 → Option Unit) (xs : Nat → Int32) (L : Nat) (μ : fw_M) (o : Int64) (d : UInt64) (x5 : Int32) : Option Unit :=
  fw_g (fw_in (x5 + (1 : Int32)) L) (
  fw_b4 (f_L_partner μ o d (xs (x5 + (1 : Int32)).toNatClampNeg)) (fun μ120 o120 d120 r120 =>
  fw_b2 (f_X10_partner μ120 (xs (x5 + (1 : Int32)).toNatClampNeg)) (fun μ121 r121 =>
  fw_b1 (f_X10_thrown μ121) (fun r122 =>
  if r122 = r120 then
    if r120 = 0 then
      if (lg_cmp o120 r121.toInt64) = 0 then
        K μ121 o120 d120 (x5 + (5 : Int32))
      else
        none
    else
      K μ121 o120 d120 (x5 + (5 : Int32))
  else
    none))))
def f_law_C1094 (K : fw_M → Int64 → UInt64 → Int32 → Option Unit) (xs : Nat → Int32) (L : Nat) (μ : fw_M) (o : Int64) (d : UInt64) (x5 : Int32) : Option Unit :=
  fw_g (fw_in (x5 + (1 : Int32)) L) (
  fw_b4 (f_L_pairCount μ o d (xs (x5 + (1 : Int32)).toNatClampNeg)) (fun μ127 o127 d127 r127 =>
  fw_b2 (f_X10_pairCount μ127 (xs (x5 + (1 : Int32)).toNatClampNeg)) (fun μ128 r128 =>
  fw_b1 (f_X10_thrown μ128) (fun r129 =>
  if r129 = r127 then
    if r127 = 0 then
      if (lg_cmp o127 r128.toInt64) = 0 then
        K μ128 o127 d127 (x5 + (5 : Int32))
      else
        none
    else
      K μ128 o127 d127 (x5 + (5 : Int32))
  else
    none))))
def f_law_C1150 (K : fw_M → Int64 → UInt64 → Int32 → Option Unit) (xs : Nat → Int32) (L : Nat) (μ : fw_M) (o : Int64) (d : UInt64) (x5 : Int32) : Option Unit :=
  fw_g (fw_in (x5 + (1 : Int32)) L) (
  fw_b4 (f_L_pairCountByParity μ o d (xs (x5 + (1 : Int32)).toNatClampNeg)) (fun μ134 o134 d134 r134 =>
  fw_b2 (f_X10_pairCountByParity μ134 (xs (x5 + (1 : Int32)).toNatClampNeg)) (fun μ135 r135 =>
  fw_b1 (f_X10_thrown μ135) (fun r136 =>
  if r136 = r134 then
    if r134 = 0 then
      if (lg_cmp o134 r135.toInt64) = 0 then
        K μ135 o134 d134 (x5 + (5 : Int32))
      else
        none
    else
      K μ135 o134 d134 (x5 + (5 : Int32))
  else
    none))))
def f_law_C1206 (K : fw_M → Int64 → UInt64 → Int32 → Option Unit) (xs : Nat → Int32) (L : Nat) (μ : fw_M) (o : Int64) (d : UInt64) (x5 : Int32) : Option Unit :=
  fw_g (fw_in (x5 + (1 : Int32)) L) (
  fw_b4 (f_L_inBag μ o d (xs (x5 + (1 : Int32)).toNatClampNeg)) (fun μ141 o141 d141 r141 =>
  fw_b2 (f_X10_inBag μ141 (xs (x5 + (1 : Int32)).toNatClampNeg)) (fun μ142 r142 =>
  fw_b1 (f_X10_thrown μ142) (fun r143 =>
  if r143 = r141 then
    if r141 = 0 then
      if (lg_cmp o141 r142.toInt64) = 0 then
        K μ142 o141 d141 (x5 + (5 : Int32))
      else
        none
    else
      K μ142 o141 d141 (x5 + (5 : Int32))
  else
    none))))
def f_law_C1262 (K : fw_M → Int64 → UInt64 → Int32 → Option Unit) (xs : Nat → Int32) (L : Nat) (μ : fw_M) (o : Int64) (d : UInt64) (x5 : Int32) : Option Unit :=
  fw_g (fw_in (x5 + (1 : Int32)) L) (
  fw_b4 (f_L_inMachine μ o d (xs (x5 + (1 : Int32)).toNatClampNeg)) (fun μ148 o148 d148 r148 =>
  fw_b2 (f_X10_inMachine μ148 (xs (x5 + (1 : Int32)).toNatClampNeg)) (fun μ149 r149 =>
  fw_b1 (f_X10_thrown μ149) (fun r150 =>
  if r150 = r148 then
    if r148 = 0 then
      if (lg_cmp o148 r149.toInt64) = 0 then
        K μ149 o148 d148 (x5 + (5 : Int32))
      else
        none
    else
      K μ149 o148 d148 (x5 + (5 : Int32))
  else
    none))))
def f_law_C1318 (K : fw_M → Int64 → UInt64 → Int32 → Option Unit) (xs : Nat → Int32) (L : Nat) (μ : fw_M) (o : Int64) (d : UInt64) (x5 : Int32) : Option Unit :=
  fw_b1 (f_X9_lost μ) (fun r154 =>
  fw_b2 (f_X10_lost μ) (fun μ155 r155 =>
  if r154 = r155 then
    K μ155 o d (x5 + (5 : Int32))
  else
    none))
def f_law_C1331 (K : fw_M → Int64 → UInt64 → Int32 → Option Unit) (xs : Nat → Int32) (L : Nat) (μ : fw_M) (o : Int64) (d : UInt64) (x5 : Int32) : Option Unit :=
  fw_g (fw_in (x5 + (1 : Int32)) L) (
  fw_b4 (f_L_temperature μ o d (xs (x5 + (1 : Int32)).toNatClampNeg)) (fun μ158 o158 d158 r158 =>
  fw_b2 (f_X10_temperature μ158 (xs (x5 + (1 : Int32)).toNatClampNeg)) (fun μ159 r159 =>
  fw_b1 (f_X10_thrown μ159) (fun r160 =>
  if r160 = r158 then
    if r158 = 0 then
      fw_g (fw_f64 (FP.f2d r159)) (
      if (Op.cmpValue (FP.dcmp d158 (FP.f2d r159)) CmpOp.l) = 0 then
        K μ159 o158 d158 (x5 + (5 : Int32))
      else
        if (Op.cmpValue (FP.dcmp d158 d158) CmpOp.l) = 0 then
          none
        else
          if (Op.cmpValue (FP.fcmp r159 r159) CmpOp.l) = 0 then
            none
          else
            K μ159 o158 d158 (x5 + (5 : Int32)))
    else
      K μ159 o158 d158 (x5 + (5 : Int32))
  else
    none))))
def f_law_C1409 (K : fw_M → Int64 → UInt64 → Int32 → Option Unit) (xs : Nat → Int32) (L : Nat) (μ : fw_M) (o : Int64) (d : UInt64) (x5 : Int32) : Option Unit :=
  fw_g (fw_in (x5 + (1 : Int32)) L) (
  fw_b4 (f_L_temperatureBits μ o d (xs (x5 + (1 : Int32)).toNatClampNeg)) (fun μ168 o168 d168 r168 =>
  fw_b2 (f_X10_temperatureBits μ168 (xs (x5 + (1 : Int32)).toNatClampNeg)) (fun μ169 r169 =>
  fw_b1 (f_X10_thrown μ169) (fun r170 =>
  if r170 = r168 then
    if r168 = 0 then
      if (lg_cmp o168 r169.toInt64) = 0 then
        K μ169 o168 d168 (x5 + (5 : Int32))
      else
        none
    else
      K μ169 o168 d168 (x5 + (5 : Int32))
  else
    none))))
def f_law_C1465 (K : fw_M → Int64 → UInt64 → Int32 → Option Unit) (xs : Nat → Int32) (L : Nat) (μ : fw_M) (o : Int64) (d : UInt64) (x5 : Int32) : Option Unit :=
  fw_g (fw_in (x5 + (1 : Int32)) L) (
  fw_b4 (f_L_washableStains μ o d (xs (x5 + (1 : Int32)).toNatClampNeg)) (fun μ175 o175 d175 r175 =>
  fw_b2 (f_X10_washableStains μ175 (xs (x5 + (1 : Int32)).toNatClampNeg)) (fun μ176 r176 =>
  fw_b1 (f_X10_thrown μ176) (fun r177 =>
  if r177 = r175 then
    if r175 = 0 then
      if (lg_cmp o175 r176.toInt64) = 0 then
        K μ176 o175 d175 (x5 + (5 : Int32))
      else
        none
    else
      K μ176 o175 d175 (x5 + (5 : Int32))
  else
    none))))
def f_law_C1521 (K : fw_M → Int64 → UInt64 → Int32 → Option Unit) (xs : Nat → Int32) (L : Nat) (μ : fw_M) (o : Int64) (d : UInt64) (x5 : Int32) : Option Unit :=
  fw_g (fw_in (x5 + (1 : Int32)) L) (
  fw_b4 (f_L_commonStains μ o d (xs (x5 + (1 : Int32)).toNatClampNeg)) (fun μ182 o182 d182 r182 =>
  fw_b2 (f_X10_commonStains μ182 (xs (x5 + (1 : Int32)).toNatClampNeg)) (fun μ183 r183 =>
  fw_b1 (f_X10_thrown μ183) (fun r184 =>
  if r184 = r182 then
    if r182 = 0 then
      if (lg_cmp o182 r183.toInt64) = 0 then
        K μ183 o182 d182 (x5 + (5 : Int32))
      else
        none
    else
      K μ183 o182 d182 (x5 + (5 : Int32))
  else
    none))))
def f_law_C1577 (K : fw_M → Int64 → UInt64 → Int32 → Option Unit) (xs : Nat → Int32) (L : Nat) (μ : fw_M) (o : Int64) (d : UInt64) (x5 : Int32) : Option Unit :=
  fw_g (fw_in (x5 + (1 : Int32)) L) (
  fw_b4 (f_L_coloursIn μ o d (xs (x5 + (1 : Int32)).toNatClampNeg)) (fun μ189 o189 d189 r189 =>
  fw_b2 (f_X10_coloursIn μ189 (xs (x5 + (1 : Int32)).toNatClampNeg)) (fun μ190 r190 =>
  fw_b1 (f_X10_thrown μ190) (fun r191 =>
  if r191 = r189 then
    if r189 = 0 then
      if (lg_cmp o189 r190.toInt64) = 0 then
        K μ190 o189 d189 (x5 + (5 : Int32))
      else
        none
    else
      K μ190 o189 d189 (x5 + (5 : Int32))
  else
    none))))
def f_law_C1633 (K : fw_M → Int64 → UInt64 → Int32 → Option Unit) (xs : Nat → Int32) (L : Nat) (μ : fw_M) (o : Int64) (d : UInt64) (x5 : Int32) : Option Unit :=
  fw_g (fw_in (x5 + (1 : Int32)) L) (
  fw_b4 (f_L_damage μ o d (xs (x5 + (1 : Int32)).toNatClampNeg)) (fun μ196 o196 d196 r196 =>
  fw_b2 (f_X10_damage μ196 (xs (x5 + (1 : Int32)).toNatClampNeg)) (fun μ197 r197 =>
  fw_b1 (f_X10_thrown μ197) (fun r198 =>
  if r198 = r196 then
    if r196 = 0 then
      if (lg_cmp o196 r197.toInt64) = 0 then
        K μ197 o196 d196 (x5 + (5 : Int32))
      else
        none
    else
      K μ197 o196 d196 (x5 + (5 : Int32))
  else
    none))))
def f_law_C1689 (K : fw_M → Int64 → UInt64 → Int32 → Option Unit) (xs : Nat → Int32) (L : Nat) (μ : fw_M) (o : Int64) (d : UInt64) (x5 : Int32) : Option Unit :=
  fw_g (fw_in (x5 + (1 : Int32)) L) (
  fw_b4 (f_L_damageByMasks μ o d (xs (x5 + (1 : Int32)).toNatClampNeg)) (fun μ203 o203 d203 r203 =>
  fw_b2 (f_X10_damageByMasks μ203 (xs (x5 + (1 : Int32)).toNatClampNeg)) (fun μ204 r204 =>
  fw_b1 (f_X10_thrown μ204) (fun r205 =>
  if r205 = r203 then
    if r203 = 0 then
      if (lg_cmp o203 r204.toInt64) = 0 then
        K μ204 o203 d203 (x5 + (5 : Int32))
      else
        none
    else
      K μ204 o203 d203 (x5 + (5 : Int32))
  else
    none))))
def f_law_C1745 (K : fw_M → Int64 → UInt64 → Int32 → Option Unit) (xs : Nat → Int32) (L : Nat) (μ : fw_M) (o : Int64) (d : UInt64) (x5 : Int32) : Option Unit :=
  fw_g (fw_in (x5 + (1 : Int32)) L) (
  fw_b4 (f_L_bestTemperature μ o d (xs (x5 + (1 : Int32)).toNatClampNeg)) (fun μ210 o210 d210 r210 =>
  fw_b2 (f_X10_bestTemperature μ210 (xs (x5 + (1 : Int32)).toNatClampNeg)) (fun μ211 r211 =>
  fw_b1 (f_X10_thrown μ211) (fun r212 =>
  if r212 = r210 then
    if r210 = 0 then
      if (lg_cmp o210 r211.toInt64) = 0 then
        K μ211 o210 d210 (x5 + (5 : Int32))
      else
        none
    else
      K μ211 o210 d210 (x5 + (5 : Int32))
  else
    none))))
def f_law_C1801 (K : fw_M → Int64 → UInt64 → Int32 → Option Unit) (xs : Nat → Int32) (L : Nat) (μ : fw_M) (o : Int64) (d : UInt64) (x5 : Int32) : Option Unit :=
  fw_g (fw_in (x5 + (1 : Int32)) L) (
  fw_g (fw_in (x5 + (2 : Int32)) L) (
  fw_b4 (f_L_price μ o d (xs (x5 + (1 : Int32)).toNatClampNeg) (xs (x5 + (2 : Int32)).toNatClampNeg)) (fun μ218 o218 d218 r218 =>
  fw_b2 (f_X10_price μ218 (xs (x5 + (1 : Int32)).toNatClampNeg) (xs (x5 + (2 : Int32)).toNatClampNeg)) (fun μ219 r219 =>
  fw_b1 (f_X10_thrown μ219) (fun r220 =>
  if r220 = r218 then
    if r218 = 0 then
      fw_g (fw_f64 (FP.f2d r219)) (
      if (Op.cmpValue (FP.dcmp d218 (FP.f2d r219)) CmpOp.l) = 0 then
        K μ219 o218 d218 (x5 + (5 : Int32))
      else
        if (Op.cmpValue (FP.dcmp d218 d218) CmpOp.l) = 0 then
          none
        else
          if (Op.cmpValue (FP.fcmp r219 r219) CmpOp.l) = 0 then
            none
          else
            K μ219 o218 d218 (x5 + (5 : Int32)))
    else
      K μ219 o218 d218 (x5 + (5 : Int32))
  else
    none)))))
def f_law_C1891 (K : fw_M → Int64 → UInt64 → Int32 → Option Unit) (xs : Nat → Int32) (L : Nat) (μ : fw_M) (o : Int64) (d : UInt64) (x5 : Int32) : Option Unit :=
  fw_g (fw_in (x5 + (1 : Int32)) L) (
  fw_b4 (f_L_paid μ o d (xs (x5 + (1 : Int32)).toNatClampNeg)) (fun μ228 o228 d228 r228 =>
  fw_b2 (f_X10_paid μ228 (xs (x5 + (1 : Int32)).toNatClampNeg)) (fun μ229 r229 =>
  fw_b1 (f_X10_thrown μ229) (fun r230 =>
  if r230 = r228 then
    if r228 = 0 then
      fw_g (fw_f64 (FP.f2d r229)) (
      if (Op.cmpValue (FP.dcmp d228 (FP.f2d r229)) CmpOp.l) = 0 then
        K μ229 o228 d228 (x5 + (5 : Int32))
      else
        if (Op.cmpValue (FP.dcmp d228 d228) CmpOp.l) = 0 then
          none
        else
          if (Op.cmpValue (FP.fcmp r229 r229) CmpOp.l) = 0 then
            none
          else
            K μ229 o228 d228 (x5 + (5 : Int32)))
    else
      K μ229 o228 d228 (x5 + (5 : Int32))
  else
    none))))
def f_law_C1969 (K : fw_M → Int64 → UInt64 → Int32 → Option Unit) (xs : Nat → Int32) (L : Nat) (μ : fw_M) (o : Int64) (d : UInt64) (x5 : Int32) : Option Unit :=
  fw_g (fw_in (x5 + (1 : Int32)) L) (
  fw_b4 (f_L_paidBits μ o d (xs (x5 + (1 : Int32)).toNatClampNeg)) (fun μ238 o238 d238 r238 =>
  fw_b2 (f_X10_paidBits μ238 (xs (x5 + (1 : Int32)).toNatClampNeg)) (fun μ239 r239 =>
  fw_b1 (f_X10_thrown μ239) (fun r240 =>
  if r240 = r238 then
    if r238 = 0 then
      if (lg_cmp o238 r239.toInt64) = 0 then
        K μ239 o238 d238 (x5 + (5 : Int32))
      else
        none
    else
      K μ239 o238 d238 (x5 + (5 : Int32))
  else
    none))))
def f_law_C2025 (K : fw_M → Int64 → UInt64 → Int32 → Option Unit) (xs : Nat → Int32) (L : Nat) (μ : fw_M) (o : Int64) (d : UInt64) (x5 : Int32) : Option Unit :=
  fw_g (fw_in (x5 + (1 : Int32)) L) (
  fw_b4 (f_L_packed μ o d (xs (x5 + (1 : Int32)).toNatClampNeg)) (fun μ245 o245 d245 r245 =>
  fw_b2 (f_X10_packed μ245 (xs (x5 + (1 : Int32)).toNatClampNeg)) (fun μ246 r246 =>
  fw_b1 (f_X10_thrown μ246) (fun r247 =>
  if r247 = r245 then
    if r245 = 0 then
      if (lg_cmp o245 r246) = 0 then
        K μ246 o245 d245 (x5 + (5 : Int32))
      else
        none
    else
      K μ246 o245 d245 (x5 + (5 : Int32))
  else
    none))))
def f_law_C2080 (K : fw_M → Int64 → UInt64 → Int32 → Option Unit) (xs : Nat → Int32) (L : Nat) (μ : fw_M) (o : Int64) (d : UInt64) (x5 : Int32) : Option Unit :=
  fw_b1 (f_X9_runCount μ) (fun r251 =>
  fw_b2 (f_X10_runCount μ) (fun μ252 r252 =>
  if r251 = r252 then
    K μ252 o d (x5 + (5 : Int32))
  else
    none))
def f_law_C2093 (K : fw_M → Int64 → UInt64 → Int32 → Option Unit) (xs : Nat → Int32) (L : Nat) (μ : fw_M) (o : Int64) (d : UInt64) (x5 : Int32) : Option Unit :=
  fw_g (fw_in (x5 + (1 : Int32)) L) (
  fw_b4 (f_L_dirtiest μ o d (xs (x5 + (1 : Int32)).toNatClampNeg)) (fun μ255 o255 d255 r255 =>
  fw_b2 (f_X10_dirtiest μ255 (xs (x5 + (1 : Int32)).toNatClampNeg)) (fun μ256 r256 =>
  fw_b1 (f_X10_thrown μ256) (fun r257 =>
  if r257 = r255 then
    if r255 = 0 then
      if (lg_cmp o255 r256.toInt64) = 0 then
        K μ256 o255 d255 (x5 + (5 : Int32))
      else
        none
    else
      K μ256 o255 d255 (x5 + (5 : Int32))
  else
    none))))
def f_law_C2149 (K : fw_M → Int64 → UInt64 → Int32 → Option Unit) (xs : Nat → Int32) (L : Nat) (μ : fw_M) (o : Int64) (d : UInt64) (x5 : Int32) : Option Unit :=
  fw_g (fw_in (x5 + (1 : Int32)) L) (
  fw_b4 (f_L_spender μ o d (xs (x5 + (1 : Int32)).toNatClampNeg)) (fun μ262 o262 d262 r262 =>
  fw_b2 (f_X10_spender μ262 (xs (x5 + (1 : Int32)).toNatClampNeg)) (fun μ263 r263 =>
  fw_b1 (f_X10_thrown μ263) (fun r264 =>
  if r264 = r262 then
    if r262 = 0 then
      if (lg_cmp o262 r263.toInt64) = 0 then
        K μ263 o262 d262 (x5 + (5 : Int32))
      else
        none
    else
      K μ263 o262 d262 (x5 + (5 : Int32))
  else
    none))))
def f_law_C2205 (K : fw_M → Int64 → UInt64 → Int32 → Option Unit) (xs : Nat → Int32) (L : Nat) (μ : fw_M) (o : Int64) (d : UInt64) (x5 : Int32) : Option Unit :=
  fw_b4 (f_L_meanStains μ o d) (fun μ268 o268 d268 r268 =>
  fw_b2 (f_X10_meanStains μ268) (fun μ269 r269 =>
  fw_b1 (f_X10_thrown μ269) (fun r270 =>
  if r270 = r268 then
    if r268 = 0 then
      if (Op.cmpValue (FP.dcmp d268 r269) CmpOp.l) = 0 then
        K μ269 o268 d268 (x5 + (5 : Int32))
      else
        if (Op.cmpValue (FP.dcmp d268 d268) CmpOp.l) = 0 then
          none
        else
          if (Op.cmpValue (FP.dcmp r269 r269) CmpOp.l) = 0 then
            none
          else
            K μ269 o268 d268 (x5 + (5 : Int32))
    else
      K μ269 o268 d268 (x5 + (5 : Int32))
  else
    none)))
def f_law_C2270 (K : fw_M → Int64 → UInt64 → Int32 → Option Unit) (xs : Nat → Int32) (L : Nat) (μ : fw_M) (o : Int64) (d : UInt64) (x5 : Int32) : Option Unit :=
  fw_b4 (f_L_lostShare μ o d) (fun μ276 o276 d276 r276 =>
  fw_b2 (f_X10_lostShare μ276) (fun μ277 r277 =>
  fw_b1 (f_X10_thrown μ277) (fun r278 =>
  if r278 = r276 then
    if r276 = 0 then
      fw_g (fw_f64 (FP.f2d r277)) (
      if (Op.cmpValue (FP.dcmp d276 (FP.f2d r277)) CmpOp.l) = 0 then
        K μ277 o276 d276 (x5 + (5 : Int32))
      else
        if (Op.cmpValue (FP.dcmp d276 d276) CmpOp.l) = 0 then
          none
        else
          if (Op.cmpValue (FP.fcmp r277 r277) CmpOp.l) = 0 then
            none
          else
            K μ277 o276 d276 (x5 + (5 : Int32)))
    else
      K μ277 o276 d276 (x5 + (5 : Int32))
  else
    none)))
def f_law_C2336 (K : fw_M → Int64 → UInt64 → Int32 → Option Unit) (xs : Nat → Int32) (L : Nat) (μ : fw_M) (o : Int64) (d : UInt64) (x5 : Int32) : Option Unit :=
  fw_b2 (f_X9_isConsistent μ) (fun μ285 r285 =>
  fw_b2 (f_X10_isConsistent μ285) (fun μ286 r286 =>
  if r285 = r286 then
    K μ286 o d (x5 + (5 : Int32))
  else
    none))
def f_law_C2349 (K : fw_M → Int64 → UInt64 → Int32 → Option Unit) (xs : Nat → Int32) (L : Nat) (μ : fw_M) (o : Int64) (d : UInt64) (x5 : Int32) : Option Unit :=
  fw_g (fw_in (x5 + (1 : Int32)) L) (
  fw_b4 (f_L_feed μ o d (((xs (x5 + (1 : Int32)).toNatClampNeg).toUInt32 % 65536).toInt32)) (fun μ289 o289 d289 r289 =>
  fw_b2 (f_X10_feed μ289 (((xs (x5 + (1 : Int32)).toNatClampNeg).toUInt32 % 65536).toInt32)) (fun μ290 r290 =>
  fw_b1 (f_X10_thrown μ290) (fun r291 =>
  if r291 = r289 then
    if r289 = 0 then
      if (lg_cmp o289 r290.toInt64) = 0 then
        K μ290 o289 d289 (x5 + (5 : Int32))
      else
        none
    else
      K μ290 o289 d289 (x5 + (5 : Int32))
  else
    none))))
def f_law_C2407 (K : fw_M → Int64 → UInt64 → Int32 → Option Unit) (xs : Nat → Int32) (L : Nat) (μ : fw_M) (o : Int64) (d : UInt64) (x5 : Int32) : Option Unit :=
  fw_b4 (f_L_runCommands μ o d) (fun μ295 o295 d295 r295 =>
  fw_b2 (f_X10_runCommands μ295) (fun μ296 r296 =>
  fw_b1 (f_X10_thrown μ296) (fun r297 =>
  if r297 = r295 then
    if r295 = 0 then
      if (lg_cmp o295 r296.toInt64) = 0 then
        K μ296 o295 d295 (x5 + (5 : Int32))
      else
        none
    else
      K μ296 o295 d295 (x5 + (5 : Int32))
  else
    none)))
def f_law_C2451 (K : fw_M → Int64 → UInt64 → Int32 → Option Unit) (xs : Nat → Int32) (L : Nat) (μ : fw_M) (o : Int64) (d : UInt64) (x5 : Int32) : Option Unit :=
  fw_b4 (f_L_errorPosition μ o d) (fun μ301 o301 d301 r301 =>
  fw_b2 (f_X10_errorPosition μ301) (fun μ302 r302 =>
  fw_b1 (f_X10_thrown μ302) (fun r303 =>
  if r303 = r301 then
    if r301 = 0 then
      if (lg_cmp o301 r302.toInt64) = 0 then
        K μ302 o301 d301 (x5 + (5 : Int32))
      else
        none
    else
      K μ302 o301 d301 (x5 + (5 : Int32))
  else
    none)))
def f_law_C2495 (K : fw_M → Int64 → UInt64 → Int32 → Option Unit) (xs : Nat → Int32) (L : Nat) (μ : fw_M) (o : Int64) (d : UInt64) (x5 : Int32) : Option Unit :=
  fw_b4 (f_L_failedCommand μ o d) (fun μ307 o307 d307 r307 =>
  fw_b2 (f_X10_failedCommand μ307) (fun μ308 r308 =>
  fw_b1 (f_X10_thrown μ308) (fun r309 =>
  if r309 = r307 then
    if r307 = 0 then
      if (lg_cmp o307 r308.toInt64) = 0 then
        K μ308 o307 d307 (x5 + (5 : Int32))
      else
        none
    else
      K μ308 o307 d307 (x5 + (5 : Int32))
  else
    none)))
def f_law_C2539 (K : fw_M → Int64 → UInt64 → Int32 → Option Unit) (xs : Nat → Int32) (L : Nat) (μ : fw_M) (o : Int64) (d : UInt64) (x5 : Int32) : Option Unit :=
  fw_g (fw_in (x5 + (1 : Int32)) L) (
  fw_b4 (f_L_writeBag μ o d (xs (x5 + (1 : Int32)).toNatClampNeg)) (fun μ314 o314 d314 r314 =>
  fw_b2 (f_X10_writeBag μ314 (xs (x5 + (1 : Int32)).toNatClampNeg)) (fun μ315 r315 =>
  fw_b1 (f_X10_thrown μ315) (fun r316 =>
  if r316 = r314 then
    if r314 = 0 then
      if (lg_cmp o314 r315.toInt64) = 0 then
        K μ315 o314 d314 (x5 + (5 : Int32))
      else
        none
    else
      K μ315 o314 d314 (x5 + (5 : Int32))
  else
    none))))
def f_law_C2595 (K : fw_M → Int64 → UInt64 → Int32 → Option Unit) (xs : Nat → Int32) (L : Nat) (μ : fw_M) (o : Int64) (d : UInt64) (x5 : Int32) : Option Unit :=
  fw_g (fw_in (x5 + (1 : Int32)) L) (
  fw_b4 (f_L_outputChar μ o d (xs (x5 + (1 : Int32)).toNatClampNeg)) (fun μ321 o321 d321 r321 =>
  fw_b2 (f_X10_outputChar μ321 (xs (x5 + (1 : Int32)).toNatClampNeg)) (fun μ322 r322 =>
  fw_b1 (f_X10_thrown μ322) (fun r323 =>
  if r323 = r321 then
    if r321 = 0 then
      if (lg_cmp o321 r322.toInt64) = 0 then
        K μ322 o321 d321 (x5 + (5 : Int32))
      else
        none
    else
      K μ322 o321 d321 (x5 + (5 : Int32))
  else
    none))))
def f_law_C2651 (K : fw_M → Int64 → UInt64 → Int32 → Option Unit) (xs : Nat → Int32) (L : Nat) (μ : fw_M) (o : Int64) (d : UInt64) (x5 : Int32) : Option Unit :=
  fw_b1 (f_X9_undoCount μ) (fun r327 =>
  fw_b2 (f_X10_undoCount μ) (fun μ328 r328 =>
  if r327 = r328 then
    K μ328 o d (x5 + (5 : Int32))
  else
    none))
def f_law_C2664 (K : fw_M → Int64 → UInt64 → Int32 → Option Unit) (xs : Nat → Int32) (L : Nat) (μ : fw_M) (o : Int64) (d : UInt64) (x5 : Int32) : Option Unit :=
  fw_b4 (f_L_undo μ o d) (fun μ330 o330 d330 r330 =>
  fw_b2 (f_X10_undo μ330) (fun μ331 r331 =>
  fw_b1 (f_X10_thrown μ331) (fun r332 =>
  if r332 = r330 then
    if r330 = 0 then
      if (lg_cmp o330 r331.toInt64) = 0 then
        K μ331 o330 d330 (x5 + (5 : Int32))
      else
        none
    else
      K μ331 o330 d330 (x5 + (5 : Int32))
  else
    none)))
def f_law_C2708 (K : fw_M → Int64 → UInt64 → Int32 → Option Unit) (xs : Nat → Int32) (L : Nat) (μ : fw_M) (o : Int64) (d : UInt64) (x5 : Int32) : Option Unit :=
  fw_b2 (f_X9_save μ) (fun μ336 r336 =>
  fw_b2 (f_X10_save μ336) (fun μ337 r337 =>
  if r336 = r337 then
    K μ337 o d (x5 + (5 : Int32))
  else
    none))
def f_law_C2721 (K : fw_M → Int64 → UInt64 → Int32 → Option Unit) (xs : Nat → Int32) (L : Nat) (μ : fw_M) (o : Int64) (d : UInt64) (x5 : Int32) : Option Unit :=
  fw_b4 (f_L_restore μ o d) (fun μ339 o339 d339 r339 =>
  fw_b2 (f_X10_restore μ339) (fun μ340 r340 =>
  fw_b1 (f_X10_thrown μ340) (fun r341 =>
  if r341 = r339 then
    if r339 = 0 then
      if (lg_cmp o339 r340.toInt64) = 0 then
        K μ340 o339 d339 (x5 + (5 : Int32))
      else
        none
    else
      K μ340 o339 d339 (x5 + (5 : Int32))
  else
    none)))
def f_law_L (xs : Nat → Int32) (L : Nat) : Nat → fw_M → Int64 → UInt64 → Int32 → Option Unit
  | 0, _, _, _, _ => none
  | n + 1, μ, o, d, x5 =>
    if ((Int32.ofNat L) - (5 : Int32)) < x5 then
      some ()
    else
      fw_g (fw_in x5 L) (
      if ((xs x5.toNatClampNeg) &&& (63 : Int32)) = (0 : Int32) then
        f_law_C248 (f_law_L xs L n) xs L μ o d x5
      else
        if ((xs x5.toNatClampNeg) &&& (63 : Int32)) = (1 : Int32) then
          f_law_C356 (f_law_L xs L n) xs L μ o d x5
        else
          if ((xs x5.toNatClampNeg) &&& (63 : Int32)) = (2 : Int32) then
            f_law_C424 (f_law_L xs L n) xs L μ o d x5
          else
            if ((xs x5.toNatClampNeg) &&& (63 : Int32)) = (3 : Int32) then
              f_law_C480 (f_law_L xs L n) xs L μ o d x5
            else
              if ((xs x5.toNatClampNeg) &&& (63 : Int32)) = (4 : Int32) then
                f_law_C570 (f_law_L xs L n) xs L μ o d x5
              else
                if ((xs x5.toNatClampNeg) &&& (63 : Int32)) = (5 : Int32) then
                  f_law_C626 (f_law_L xs L n) xs L μ o d x5
                else
                  if ((xs x5.toNatClampNeg) &&& (63 : Int32)) = (6 : Int32) then
                    f_law_C639 (f_law_L xs L n) xs L μ o d x5
                  else
                    if ((xs x5.toNatClampNeg) &&& (63 : Int32)) = (7 : Int32) then
                      f_law_C695 (f_law_L xs L n) xs L μ o d x5
                    else
                      if ((xs x5.toNatClampNeg) &&& (63 : Int32)) = (8 : Int32) then
                        f_law_C758 (f_law_L xs L n) xs L μ o d x5
                      else
                        if ((xs x5.toNatClampNeg) &&& (63 : Int32)) = (9 : Int32) then
                          f_law_C814 (f_law_L xs L n) xs L μ o d x5
                        else
                          if ((xs x5.toNatClampNeg) &&& (63 : Int32)) = (10 : Int32) then
                            f_law_C870 (f_law_L xs L n) xs L μ o d x5
                          else
                            if ((xs x5.toNatClampNeg) &&& (63 : Int32)) = (11 : Int32) then
                              f_law_C926 (f_law_L xs L n) xs L μ o d x5
                            else
                              if ((xs x5.toNatClampNeg) &&& (63 : Int32)) = (12 : Int32) then
                                f_law_C982 (f_law_L xs L n) xs L μ o d x5
                              else
                                if ((xs x5.toNatClampNeg) &&& (63 : Int32)) = (13 : Int32) then
                                  f_law_C1038 (f_law_L xs L n) xs L μ o d x5
                                else
                                  if ((xs x5.toNatClampNeg) &&& (63 : Int32)) = (14 : Int32) then
                                    f_law_C1094 (f_law_L xs L n) xs L μ o d x5
                                  else
                                    if ((xs x5.toNatClampNeg) &&& (63 : Int32)) = (15 : Int32) then
                                      f_law_C1150 (f_law_L xs L n) xs L μ o d x5
                                    else
                                      if ((xs x5.toNatClampNeg) &&& (63 : Int32)) = (16 : Int32) then
                                        f_law_C1206 (f_law_L xs L n) xs L μ o d x5
                                      else
                                        if ((xs x5.toNatClampNeg) &&& (63 : Int32)) = (17 : Int32) then
                                          f_law_C1262 (f_law_L xs L n) xs L μ o d x5
                                        else
                                          if ((xs x5.toNatClampNeg) &&& (63 : Int32)) = (18 : Int32) then
                                            f_law_C1318 (f_law_L xs L n) xs L μ o d x5
                                          else
                                            if ((xs x5.toNatClampNeg) &&& (63 : Int32)) = (19 : Int32) then
                                              f_law_C1331 (f_law_L xs L n) xs L μ o d x5
                                            else
                                              if ((xs x5.toNatClampNeg) &&& (63 : Int32)) = (20 : Int32) then
                                                f_law_C1409 (f_law_L xs L n) xs L μ o d x5
                                              else
                                                if ((xs x5.toNatClampNeg) &&& (63 : Int32)) = (21 : Int32) then
                                                  f_law_C1465 (f_law_L xs L n) xs L μ o d x5
                                                else
                                                  if ((xs x5.toNatClampNeg) &&& (63 : Int32)) = (22 : Int32) then
                                                    f_law_C1521 (f_law_L xs L n) xs L μ o d x5
                                                  else
                                                    if ((xs x5.toNatClampNeg) &&& (63 : Int32)) = (23 : Int32) then
                                                      f_law_C1577 (f_law_L xs L n) xs L μ o d x5
                                                    else
                                                      if ((xs x5.toNatClampNeg) &&& (63 : Int32)) = (24 : Int32) then
                                                        f_law_C1633 (f_law_L xs L n) xs L μ o d x5
                                                      else
                                                        if ((xs x5.toNatClampNeg) &&& (63 : Int32)) = (25 : Int32) then
                                                          f_law_C1689 (f_law_L xs L n) xs L μ o d x5
                                                        else
                                                          if ((xs x5.toNatClampNeg) &&& (63 : Int32)) = (26 : Int32) then
                                                            f_law_C1745 (f_law_L xs L n) xs L μ o d x5
                                                          else
                                                            if ((xs x5.toNatClampNeg) &&& (63 : Int32)) = (27 : Int32) then
                                                              f_law_C1801 (f_law_L xs L n) xs L μ o d x5
                                                            else
                                                              if ((xs x5.toNatClampNeg) &&& (63 : Int32)) = (28 : Int32) then
                                                                f_law_C1891 (f_law_L xs L n) xs L μ o d x5
                                                              else
                                                                if ((xs x5.toNatClampNeg) &&& (63 : Int32)) = (29 : Int32) then
                                                                  f_law_C1969 (f_law_L xs L n) xs L μ o d x5
                                                                else
                                                                  if ((xs x5.toNatClampNeg) &&& (63 : Int32)) = (30 : Int32) then
                                                                    f_law_C2025 (f_law_L xs L n) xs L μ o d x5
                                                                  else
                                                                    if ((xs x5.toNatClampNeg) &&& (63 : Int32)) = (31 : Int32) then
                                                                      f_law_C2080 (f_law_L xs L n) xs L μ o d x5
                                                                    else
                                                                      if ((xs x5.toNatClampNeg) &&& (63 : Int32)) = (32 : Int32) then
                                                                        f_law_C2093 (f_law_L xs L n) xs L μ o d x5
                                                                      else
                                                                        if ((xs x5.toNatClampNeg) &&& (63 : Int32)) = (33 : Int32) then
                                                                          f_law_C2149 (f_law_L xs L n) xs L μ o d x5
                                                                        else
                                                                          if ((xs x5.toNatClampNeg) &&& (63 : Int32)) = (34 : Int32) then
                                                                            f_law_C2205 (f_law_L xs L n) xs L μ o d x5
                                                                          else
                                                                            if ((xs x5.toNatClampNeg) &&& (63 : Int32)) = (35 : Int32) then
                                                                              f_law_C2270 (f_law_L xs L n) xs L μ o d x5
                                                                            else
                                                                              if ((xs x5.toNatClampNeg) &&& (63 : Int32)) = (36 : Int32) then
                                                                                f_law_C2336 (f_law_L xs L n) xs L μ o d x5
                                                                              else
                                                                                if ((xs x5.toNatClampNeg) &&& (63 : Int32)) = (37 : Int32) then
                                                                                  f_law_C2349 (f_law_L xs L n) xs L μ o d x5
                                                                                else
                                                                                  if ((xs x5.toNatClampNeg) &&& (63 : Int32)) = (38 : Int32) then
                                                                                    f_law_C2407 (f_law_L xs L n) xs L μ o d x5
                                                                                  else
                                                                                    if ((xs x5.toNatClampNeg) &&& (63 : Int32)) = (39 : Int32) then
                                                                                      f_law_C2451 (f_law_L xs L n) xs L μ o d x5
                                                                                    else
                                                                                      if ((xs x5.toNatClampNeg) &&& (63 : Int32)) = (40 : Int32) then
                                                                                        f_law_C2495 (f_law_L xs L n) xs L μ o d x5
                                                                                      else
                                                                                        if ((xs x5.toNatClampNeg) &&& (63 : Int32)) = (41 : Int32) then
                                                                                          f_law_C2539 (f_law_L xs L n) xs L μ o d x5
                                                                                        else
                                                                                          if ((xs x5.toNatClampNeg) &&& (63 : Int32)) = (42 : Int32) then
                                                                                            f_law_C2595 (f_law_L xs L n) xs L μ o d x5
                                                                                          else
                                                                                            if ((xs x5.toNatClampNeg) &&& (63 : Int32)) = (43 : Int32) then
                                                                                              f_law_C2651 (f_law_L xs L n) xs L μ o d x5
                                                                                            else
                                                                                              if ((xs x5.toNatClampNeg) &&& (63 : Int32)) = (44 : Int32) then
                                                                                                f_law_C2664 (f_law_L xs L n) xs L μ o d x5
                                                                                              else
                                                                                                if ((xs x5.toNatClampNeg) &&& (63 : Int32)) = (45 : Int32) then
                                                                                                  f_law_C2708 (f_law_L xs L n) xs L μ o d x5
                                                                                                else
                                                                                                  if ((xs x5.toNatClampNeg) &&& (63 : Int32)) = (46 : Int32) then
                                                                                                    f_law_C2721 (f_law_L xs L n) xs L μ o d x5
                                                                                                  else
                                                                                                    (f_law_L xs L n) μ o d (x5 + (5 : Int32)))
set_option maxHeartbeats 4000000 in
set_option maxRecDepth 100000 in
theorem law_C248 {p : Program} {l : Launch} {e : Env} {s : State} {m : MethodId} {below : List Frame} {meth : Method} {c : Code} {b L : Nat} {xs : Nat → Int32} {E : fw_E} {Q : State → Prop} (C0 : lc_At p l s m meth c b L xs E) (n : Nat) (K : fw_M → Int64 → UInt64 → Int32 → Option Unit) (ih : ∀ (μ : fw_M) (o : Int64) (d : UInt64) (x5 : Int32) (H : Heap) (locs : List Loc) (ls : Array Slot) (cells slots : Nat), K μ o d x5 = some () → fw_P E o d μ H → va_S (fw_A E) s.heap H locs → lv_has ls 9 [(0, .ref b), (1, .ref (fw_ad E 0 10)), (2, .ref (fw_ad E 0 18)), (3, .ref (fw_ad E 0 27)), (4, .ref (fw_ad E 0 28)), (5, .int x5)] → cells + 4 * n ≤ 603072 → slots + 24 * n ≤ 7182442 → W p l e room_1 s m #[Value.ref b] below meth c H locs cells slots Q (F0 m 28 ls [])) : ∀ (μ : fw_M) (o : Int64) (d : UInt64) (x5 : Int32) (H : Heap) (locs : List Loc) (ls : Array Slot) (cells slots : Nat), f_law_C248 K xs L μ o d x5 = some () → fw_P E o d μ H → va_S (fw_A E) s.heap H locs → lv_has ls 9 [(0, .ref b), (1, .ref (fw_ad E 0 10)), (2, .ref (fw_ad E 0 18)), (3, .ref (fw_ad E 0 27)), (4, .ref (fw_ad E 0 28)), (5, .int x5)] → cells + 4 * (n + 1) ≤ 603072 → slots + 24 * (n + 1) ≤ 7182442 → W p l e room_1 s m #[Value.ref b] below meth c H locs cells slots Q (F0 m 248 ls []) := by
  obtain ⟨hx, hb, hml, hown, hU, hK, hSt, hN2, hE, hst, hX, hbl, hbA, hz⟩ := C0
  intro μ o d x5 H locs ls cells slots h hP hS hl hc1 hc2
  unfold f_law_C248 at h
  refine lv_aload_n hx hb dL_law_248 rfl (lv_at hl 1 rfl) ?_
  refine lv_aload_n hx hb dL_law_249 rfl (lv_at hl 0 rfl) ?_
  refine lv_iload hx hb dL_law_250 (lv_at hl 5 rfl) ?_
  refine lv_iconst (v := (1 : Int32)) hx hb dL_law_252 (by decide) ?_
  refine lv_iadd hx hb dL_law_253 ?_
  obtain ⟨g1, h⟩ := fw_g_e h
  refine va_sld hx hb hX hbl hbA hS (fw_in_e g1) dL_law_254 ?_
  refine lv_aload_n hx hb dL_law_255 rfl (lv_at hl 0 rfl) ?_
  refine lv_iload hx hb dL_law_256 (lv_at hl 5 rfl) ?_
  refine lv_iconst (v := (2 : Int32)) hx hb dL_law_258 (by decide) ?_
  refine lv_iadd hx hb dL_law_259 ?_
  obtain ⟨g2, h⟩ := fw_g_e h
  refine va_sld hx hb hX hbl hbA hS (fw_in_e g2) dL_law_260 ?_
  refine lv_if_eq (tgt := 268) hx hb dL_law_261 (by decide) (fun c3 => ?_) (fun c3 => ?_)
  · rw [if_pos c3] at h
    refine lv_iconst (v := (0 : Int32)) hx hb dL_law_268 (by decide) ?_
    refine lv_aload_n hx hb dL_law_269 rfl (lv_at hl 0 rfl) ?_
    refine lv_iload hx hb dL_law_270 (lv_at hl 5 rfl) ?_
    refine lv_iconst (v := (3 : Int32)) hx hb dL_law_272 (by decide) ?_
    refine lv_iadd hx hb dL_law_273 ?_
    obtain ⟨g4, h⟩ := fw_g_e h
    refine va_sld hx hb hX hbl hbA hS (fw_in_e g4) dL_law_274 ?_
    refine lv_aload_n hx hb dL_law_275 rfl (lv_at hl 0 rfl) ?_
    refine lv_iload hx hb dL_law_276 (lv_at hl 5 rfl) ?_
    refine lv_iconst (v := (4 : Int32)) hx hb dL_law_278 (by decide) ?_
    refine lv_iadd hx hb dL_law_279 ?_
    obtain ⟨g5, h⟩ := fw_g_e h
    refine va_sld hx hb hX hbl hbA hS (fw_in_e g5) dL_law_280 ?_
    refine lv_aload_n hx hb dL_law_281 rfl (lv_at hl 3 rfl) ?_
    obtain ⟨μ6, o6, d6, r6, hc6, h⟩ := fw_b4_e h
    refine fw_retL (vx_runSW (As := [.ref (fw_ad E 0 10), .int (xs (x5 + (1 : Int32)).toNatClampNeg), .int (0 : Int32), .int (xs (x5 + (3 : Int32)).toNatClampNeg), .int (xs (x5 + (4 : Int32)).toNatClampNeg), .ref (fw_ad E 0 27)]) (rest := []) ⟨hx, hb, hml, hown, hU⟩ (k_L_bring l hst hE (xs (x5 + (1 : Int32)).toNatClampNeg) (0 : Int32) (xs (x5 + (3 : Int32)).toNatClampNeg) (xs (x5 + (4 : Int32)).toNatClampNeg) hc6) (vx_cwSW 6 hU (fw_gSW m_335 m_336 m_0 m_337) rfl rfl rfl (by decide +kernel) ⟨(Nat.le_of_ble_eq_true rfl), (Nat.le_of_ble_eq_true rfl)⟩) ⟨fw_blind2, fun U hU9 hW9 => ⟨rfl, fw_pre hK hP hSt hS U hU9 hW9, fw_S2_go hN2 hW9⟩⟩ rfl rfl hl.1 rfl (lv_room (Nat.le_of_ble_eq_true rfl)) dL_law_282 ⟨by show _ ≤ 603072; omega, by show _ ≤ 7182442; omega⟩) hS (fun H locs hP hS => ?_)
    refine lv_istore (lv' := [(6, .int r6), (0, .ref b), (1, .ref (fw_ad E 0 10)), (2, .ref (fw_ad E 0 18)), (3, .ref (fw_ad E 0 27)), (4, .ref (fw_ad E 0 28)), (5, .int x5)]) hx hb dL_law_285 hl (by decide) rfl (fun ls hl => ?_)
    refine lv_aload_n hx hb dL_law_287 rfl (lv_at hl 3 rfl) ?_
    refine lv_aload_n hx hb dL_law_288 rfl (lv_at hl 1 rfl) ?_
    refine lv_iload hx hb dL_law_289 (lv_at hl 6 rfl) ?_
    refine lv_iconst (v := (1 : Int32)) hx hb dL_law_291 (by decide) ?_
    refine lv_iadd hx hb dL_law_292 ?_
    refine va_sld hx hb hX hbl hbA hS (fw_in_e g1) dL_law_293 ?_
    refine lv_aload_n hx hb dL_law_294 rfl (lv_at hl 1 rfl) ?_
    refine lv_iload hx hb dL_law_295 (lv_at hl 6 rfl) ?_
    refine lv_iconst (v := (2 : Int32)) hx hb dL_law_297 (by decide) ?_
    refine lv_iadd hx hb dL_law_298 ?_
    refine va_sld hx hb hX hbl hbA hS (fw_in_e g2) dL_law_299 ?_
    refine lv_if_eq (tgt := 307) hx hb dL_law_300 (by decide) (fun c7 => ?_) (fun c7 => ?_)
    · rw [if_pos c7] at h
      refine lv_iconst (v := (0 : Int32)) hx hb dL_law_307 (by decide) ?_
      refine lv_aload_n hx hb dL_law_308 rfl (lv_at hl 1 rfl) ?_
      refine lv_iload hx hb dL_law_309 (lv_at hl 6 rfl) ?_
      refine lv_iconst (v := (3 : Int32)) hx hb dL_law_311 (by decide) ?_
      refine lv_iadd hx hb dL_law_312 ?_
      refine va_sld hx hb hX hbl hbA hS (fw_in_e g4) dL_law_313 ?_
      refine lv_aload_n hx hb dL_law_314 rfl (lv_at hl 1 rfl) ?_
      refine lv_iload hx hb dL_law_315 (lv_at hl 6 rfl) ?_
      refine lv_iconst (v := (4 : Int32)) hx hb dL_law_317 (by decide) ?_
      refine lv_iadd hx hb dL_law_318 ?_
      refine va_sld hx hb hX hbl hbA hS (fw_in_e g5) dL_law_319 ?_
      obtain ⟨μ8, r8, hc8, h⟩ := fw_b2_e h
      refine fw_ret (va_runV (As := [.int (xs (x5 + (1 : Int32)).toNatClampNeg), .int (0 : Int32), .int (xs (x5 + (3 : Int32)).toNatClampNeg), .int (xs (x5 + (4 : Int32)).toNatClampNeg)]) (rest := []) ⟨hx, hb, hml, hown, hU⟩ (k_X10_bring l hE (xs (x5 + (1 : Int32)).toNatClampNeg) (0 : Int32) (xs (x5 + (3 : Int32)).toNatClampNeg) (xs (x5 + (4 : Int32)).toNatClampNeg) hc8) (cwV 4 hU (fw_gV m_1182 m_1183 m_1184 m_9 m_1185) rfl rfl rfl (by decide +kernel) ⟨(Nat.le_of_ble_eq_true rfl), (Nat.le_of_ble_eq_true rfl)⟩) ⟨fw_blind, fw_recv hK hP (fw_V0 (f := 18) (by decide) (by decide)) rfl rfl, fun U hU9 hW9 => ⟨rfl, fw_pre hK hP hSt hS U hU9 hW9⟩⟩ rfl rfl hl.1 rfl (lv_room (Nat.le_of_ble_eq_true rfl)) dL_law_320 ⟨by show _ ≤ 603072; omega, by show _ ≤ 7182442; omega⟩) hS (fun H locs hP hS => ?_)
      refine lv_istore (lv' := [(7, .int r8), (6, .int r6), (0, .ref b), (1, .ref (fw_ad E 0 10)), (2, .ref (fw_ad E 0 18)), (3, .ref (fw_ad E 0 27)), (4, .ref (fw_ad E 0 28)), (5, .int x5)]) hx hb dL_law_323 hl (by decide) rfl (fun ls hl => ?_)
      refine lv_aload_n hx hb dL_law_325 rfl (lv_at hl 4 rfl) ?_
      obtain ⟨r9, hc9, h⟩ := fw_b1_e h
      refine fw_ret (va_runV (As := []) (rest := []) ⟨hx, hb, hml, hown, hU⟩ (k_X10_thrown l hE hc9) (cwV 0 hU (fw_gV m_1178 m_1179 m_1180 m_9 m_1181) rfl rfl rfl (by decide +kernel) ⟨(Nat.le_of_ble_eq_true rfl), (Nat.le_of_ble_eq_true rfl)⟩) ⟨fw_blind, fw_recv hK hP (fw_V0 (f := 18) (by decide) (by decide)) rfl rfl, fun U hU9 hW9 => ⟨rfl, fw_pre hK hP hSt hS U hU9 hW9⟩⟩ rfl rfl hl.1 rfl (lv_room (Nat.le_of_ble_eq_true rfl)) dL_law_326 ⟨by show _ ≤ 603072; omega, by show _ ≤ 7182442; omega⟩) hS (fun H locs hP hS => ?_)
      refine lv_iload hx hb dL_law_329 (lv_at hl 1 rfl) ?_
      refine lv_icmp_eq (tgt := 336) hx hb dL_law_331 (by decide) (fun c10 => ?_) (fun c10 => ?_)
      · rw [if_pos c10] at h
        refine lv_iload hx hb dL_law_336 (lv_at hl 1 rfl) ?_
        refine lv_if_ne (tgt := 353) hx hb dL_law_338 (by decide) (fun c11 => ?_) (fun c11 => ?_)
        · rw [if_neg c11] at h
          refine lv_goto (tgt := 2765) hx hb dL_law_353 (by decide) ?_
          refine lv_iinc (v := (x5 + (5 : Int32))) (lv' := [(5, .int (x5 + (5 : Int32))), (7, .int r8), (6, .int r6), (0, .ref b), (1, .ref (fw_ad E 0 10)), (2, .ref (fw_ad E 0 18)), (3, .ref (fw_ad E 0 27)), (4, .ref (fw_ad E 0 28))]) hx hb dL_law_2765 hl (k := 7) rfl rfl (by decide) rfl (fun ls hl => ?_)
          refine lv_goto (tgt := 28) hx hb dL_law_2768 (by decide) ?_
          exact ih _ _ _ _ H locs ls _ _ h hP hS (lv_sub hl [3, 4, 5, 6, 7, 0] rfl) (by omega) (by omega)
        · rw [if_pos c11] at h
          refine lv_aload_n hx hb dL_law_341 rfl (lv_at hl 5 rfl) ?_
          refine lv_iconst (v := (0 : Int32)) hx hb dL_law_342 (by decide) ?_
          refine va_lald (D := fw_D E) hx hb hK (fw_at hP (fw_V0 (f := 27) (by decide) (by decide))) 0 6 rfl rfl (fw_in_e (n := 1) (by decide)) dL_law_343 ?_
          refine lv_iload hx hb dL_law_344 (lv_at hl 0 rfl) ?_
          refine lv_i2l (v := r8.toInt64) hx hb dL_law_346 rfl ?_
          refine W.lcmp hx hb dL_law_347 ?_
          refine lv_if_eq (tgt := 353) hx hb dL_law_348 (by decide) (fun c12 => ?_) (fun c12 => ?_)
          · rw [if_pos c12] at h
            refine lv_goto (tgt := 2765) hx hb dL_law_353 (by decide) ?_
            refine lv_iinc (v := (x5 + (5 : Int32))) (lv' := [(5, .int (x5 + (5 : Int32))), (7, .int r8), (6, .int r6), (0, .ref b), (1, .ref (fw_ad E 0 10)), (2, .ref (fw_ad E 0 18)), (3, .ref (fw_ad E 0 27)), (4, .ref (fw_ad E 0 28))]) hx hb dL_law_2765 hl (k := 7) rfl rfl (by decide) rfl (fun ls hl => ?_)
            refine lv_goto (tgt := 28) hx hb dL_law_2768 (by decide) ?_
            exact ih _ _ _ _ H locs ls _ _ h hP hS (lv_sub hl [3, 4, 5, 6, 7, 0] rfl) (by omega) (by omega)
          · rw [if_neg c12] at h
            refine lv_iconst (v := (0 : Int32)) hx hb dL_law_351 (by decide) ?_
            cases h
      · rw [if_neg c10] at h
        refine lv_iconst (v := (0 : Int32)) hx hb dL_law_334 (by decide) ?_
        cases h
    · rw [if_neg c7] at h
      refine lv_iconst (v := (1 : Int32)) hx hb dL_law_303 (by decide) ?_
      refine lv_goto (tgt := 308) hx hb dL_law_304 (by decide) ?_
      refine lv_aload_n hx hb dL_law_308 rfl (lv_at hl 1 rfl) ?_
      refine lv_iload hx hb dL_law_309 (lv_at hl 6 rfl) ?_
      refine lv_iconst (v := (3 : Int32)) hx hb dL_law_311 (by decide) ?_
      refine lv_iadd hx hb dL_law_312 ?_
      refine va_sld hx hb hX hbl hbA hS (fw_in_e g4) dL_law_313 ?_
      refine lv_aload_n hx hb dL_law_314 rfl (lv_at hl 1 rfl) ?_
      refine lv_iload hx hb dL_law_315 (lv_at hl 6 rfl) ?_
      refine lv_iconst (v := (4 : Int32)) hx hb dL_law_317 (by decide) ?_
      refine lv_iadd hx hb dL_law_318 ?_
      refine va_sld hx hb hX hbl hbA hS (fw_in_e g5) dL_law_319 ?_
      obtain ⟨μ13, r13, hc13, h⟩ := fw_b2_e h
      refine fw_ret (va_runV (As := [.int (xs (x5 + (1 : Int32)).toNatClampNeg), .int (1 : Int32), .int (xs (x5 + (3 : Int32)).toNatClampNeg), .int (xs (x5 + (4 : Int32)).toNatClampNeg)]) (rest := []) ⟨hx, hb, hml, hown, hU⟩ (k_X10_bring l hE (xs (x5 + (1 : Int32)).toNatClampNeg) (1 : Int32) (xs (x5 + (3 : Int32)).toNatClampNeg) (xs (x5 + (4 : Int32)).toNatClampNeg) hc13) (cwV 4 hU (fw_gV m_1182 m_1183 m_1184 m_9 m_1185) rfl rfl rfl (by decide +kernel) ⟨(Nat.le_of_ble_eq_true rfl), (Nat.le_of_ble_eq_true rfl)⟩) ⟨fw_blind, fw_recv hK hP (fw_V0 (f := 18) (by decide) (by decide)) rfl rfl, fun U hU9 hW9 => ⟨rfl, fw_pre hK hP hSt hS U hU9 hW9⟩⟩ rfl rfl hl.1 rfl (lv_room (Nat.le_of_ble_eq_true rfl)) dL_law_320 ⟨by show _ ≤ 603072; omega, by show _ ≤ 7182442; omega⟩) hS (fun H locs hP hS => ?_)
      refine lv_istore (lv' := [(7, .int r13), (6, .int r6), (0, .ref b), (1, .ref (fw_ad E 0 10)), (2, .ref (fw_ad E 0 18)), (3, .ref (fw_ad E 0 27)), (4, .ref (fw_ad E 0 28)), (5, .int x5)]) hx hb dL_law_323 hl (by decide) rfl (fun ls hl => ?_)
      refine lv_aload_n hx hb dL_law_325 rfl (lv_at hl 4 rfl) ?_
      obtain ⟨r14, hc14, h⟩ := fw_b1_e h
      refine fw_ret (va_runV (As := []) (rest := []) ⟨hx, hb, hml, hown, hU⟩ (k_X10_thrown l hE hc14) (cwV 0 hU (fw_gV m_1178 m_1179 m_1180 m_9 m_1181) rfl rfl rfl (by decide +kernel) ⟨(Nat.le_of_ble_eq_true rfl), (Nat.le_of_ble_eq_true rfl)⟩) ⟨fw_blind, fw_recv hK hP (fw_V0 (f := 18) (by decide) (by decide)) rfl rfl, fun U hU9 hW9 => ⟨rfl, fw_pre hK hP hSt hS U hU9 hW9⟩⟩ rfl rfl hl.1 rfl (lv_room (Nat.le_of_ble_eq_true rfl)) dL_law_326 ⟨by show _ ≤ 603072; omega, by show _ ≤ 7182442; omega⟩) hS (fun H locs hP hS => ?_)
      refine lv_iload hx hb dL_law_329 (lv_at hl 1 rfl) ?_
      refine lv_icmp_eq (tgt := 336) hx hb dL_law_331 (by decide) (fun c15 => ?_) (fun c15 => ?_)
      · rw [if_pos c15] at h
        refine lv_iload hx hb dL_law_336 (lv_at hl 1 rfl) ?_
        refine lv_if_ne (tgt := 353) hx hb dL_law_338 (by decide) (fun c16 => ?_) (fun c16 => ?_)
        · rw [if_neg c16] at h
          refine lv_goto (tgt := 2765) hx hb dL_law_353 (by decide) ?_
          refine lv_iinc (v := (x5 + (5 : Int32))) (lv' := [(5, .int (x5 + (5 : Int32))), (7, .int r13), (6, .int r6), (0, .ref b), (1, .ref (fw_ad E 0 10)), (2, .ref (fw_ad E 0 18)), (3, .ref (fw_ad E 0 27)), (4, .ref (fw_ad E 0 28))]) hx hb dL_law_2765 hl (k := 7) rfl rfl (by decide) rfl (fun ls hl => ?_)
          refine lv_goto (tgt := 28) hx hb dL_law_2768 (by decide) ?_
          exact ih _ _ _ _ H locs ls _ _ h hP hS (lv_sub hl [3, 4, 5, 6, 7, 0] rfl) (by omega) (by omega)
        · rw [if_pos c16] at h
          refine lv_aload_n hx hb dL_law_341 rfl (lv_at hl 5 rfl) ?_
          refine lv_iconst (v := (0 : Int32)) hx hb dL_law_342 (by decide) ?_
          refine va_lald (D := fw_D E) hx hb hK (fw_at hP (fw_V0 (f := 27) (by decide) (by decide))) 0 6 rfl rfl (fw_in_e (n := 1) (by decide)) dL_law_343 ?_
          refine lv_iload hx hb dL_law_344 (lv_at hl 0 rfl) ?_
          refine lv_i2l (v := r13.toInt64) hx hb dL_law_346 rfl ?_
          refine W.lcmp hx hb dL_law_347 ?_
          refine lv_if_eq (tgt := 353) hx hb dL_law_348 (by decide) (fun c17 => ?_) (fun c17 => ?_)
          · rw [if_pos c17] at h
            refine lv_goto (tgt := 2765) hx hb dL_law_353 (by decide) ?_
            refine lv_iinc (v := (x5 + (5 : Int32))) (lv' := [(5, .int (x5 + (5 : Int32))), (7, .int r13), (6, .int r6), (0, .ref b), (1, .ref (fw_ad E 0 10)), (2, .ref (fw_ad E 0 18)), (3, .ref (fw_ad E 0 27)), (4, .ref (fw_ad E 0 28))]) hx hb dL_law_2765 hl (k := 7) rfl rfl (by decide) rfl (fun ls hl => ?_)
            refine lv_goto (tgt := 28) hx hb dL_law_2768 (by decide) ?_
            exact ih _ _ _ _ H locs ls _ _ h hP hS (lv_sub hl [3, 4, 5, 6, 7, 0] rfl) (by omega) (by omega)
          · rw [if_neg c17] at h
            refine lv_iconst (v := (0 : Int32)) hx hb dL_law_351 (by decide) ?_
            cases h
      · rw [if_neg c15] at h
        refine lv_iconst (v := (0 : Int32)) hx hb dL_law_334 (by decide) ?_
        cases h
  · rw [if_neg c3] at h
    refine lv_iconst (v := (1 : Int32)) hx hb dL_law_264 (by decide) ?_
    refine lv_goto (tgt := 269) hx hb dL_law_265 (by decide) ?_
    refine lv_aload_n hx hb dL_law_269 rfl (lv_at hl 0 rfl) ?_
    refine lv_iload hx hb dL_law_270 (lv_at hl 5 rfl) ?_
    refine lv_iconst (v := (3 : Int32)) hx hb dL_law_272 (by decide) ?_
    refine lv_iadd hx hb dL_law_273 ?_
    obtain ⟨g18, h⟩ := fw_g_e h
    refine va_sld hx hb hX hbl hbA hS (fw_in_e g18) dL_law_274 ?_
    refine lv_aload_n hx hb dL_law_275 rfl (lv_at hl 0 rfl) ?_
    refine lv_iload hx hb dL_law_276 (lv_at hl 5 rfl) ?_
    refine lv_iconst (v := (4 : Int32)) hx hb dL_law_278 (by decide) ?_
    refine lv_iadd hx hb dL_law_279 ?_
    obtain ⟨g19, h⟩ := fw_g_e h
    refine va_sld hx hb hX hbl hbA hS (fw_in_e g19) dL_law_280 ?_
    refine lv_aload_n hx hb dL_law_281 rfl (lv_at hl 3 rfl) ?_
    obtain ⟨μ20, o20, d20, r20, hc20, h⟩ := fw_b4_e h
    refine fw_retL (vx_runSW (As := [.ref (fw_ad E 0 10), .int (xs (x5 + (1 : Int32)).toNatClampNeg), .int (1 : Int32), .int (xs (x5 + (3 : Int32)).toNatClampNeg), .int (xs (x5 + (4 : Int32)).toNatClampNeg), .ref (fw_ad E 0 27)]) (rest := []) ⟨hx, hb, hml, hown, hU⟩ (k_L_bring l hst hE (xs (x5 + (1 : Int32)).toNatClampNeg) (1 : Int32) (xs (x5 + (3 : Int32)).toNatClampNeg) (xs (x5 + (4 : Int32)).toNatClampNeg) hc20) (vx_cwSW 6 hU (fw_gSW m_335 m_336 m_0 m_337) rfl rfl rfl (by decide +kernel) ⟨(Nat.le_of_ble_eq_true rfl), (Nat.le_of_ble_eq_true rfl)⟩) ⟨fw_blind2, fun U hU9 hW9 => ⟨rfl, fw_pre hK hP hSt hS U hU9 hW9, fw_S2_go hN2 hW9⟩⟩ rfl rfl hl.1 rfl (lv_room (Nat.le_of_ble_eq_true rfl)) dL_law_282 ⟨by show _ ≤ 603072; omega, by show _ ≤ 7182442; omega⟩) hS (fun H locs hP hS => ?_)
    refine lv_istore (lv' := [(6, .int r20), (0, .ref b), (1, .ref (fw_ad E 0 10)), (2, .ref (fw_ad E 0 18)), (3, .ref (fw_ad E 0 27)), (4, .ref (fw_ad E 0 28)), (5, .int x5)]) hx hb dL_law_285 hl (by decide) rfl (fun ls hl => ?_)
    refine lv_aload_n hx hb dL_law_287 rfl (lv_at hl 3 rfl) ?_
    refine lv_aload_n hx hb dL_law_288 rfl (lv_at hl 1 rfl) ?_
    refine lv_iload hx hb dL_law_289 (lv_at hl 6 rfl) ?_
    refine lv_iconst (v := (1 : Int32)) hx hb dL_law_291 (by decide) ?_
    refine lv_iadd hx hb dL_law_292 ?_
    refine va_sld hx hb hX hbl hbA hS (fw_in_e g1) dL_law_293 ?_
    refine lv_aload_n hx hb dL_law_294 rfl (lv_at hl 1 rfl) ?_
    refine lv_iload hx hb dL_law_295 (lv_at hl 6 rfl) ?_
    refine lv_iconst (v := (2 : Int32)) hx hb dL_law_297 (by decide) ?_
    refine lv_iadd hx hb dL_law_298 ?_
    refine va_sld hx hb hX hbl hbA hS (fw_in_e g2) dL_law_299 ?_
    refine lv_if_eq (tgt := 307) hx hb dL_law_300 (by decide) (fun c21 => ?_) (fun c21 => ?_)
    · rw [if_pos c21] at h
      refine lv_iconst (v := (0 : Int32)) hx hb dL_law_307 (by decide) ?_
      refine lv_aload_n hx hb dL_law_308 rfl (lv_at hl 1 rfl) ?_
      refine lv_iload hx hb dL_law_309 (lv_at hl 6 rfl) ?_
      refine lv_iconst (v := (3 : Int32)) hx hb dL_law_311 (by decide) ?_
      refine lv_iadd hx hb dL_law_312 ?_
      refine va_sld hx hb hX hbl hbA hS (fw_in_e g18) dL_law_313 ?_
      refine lv_aload_n hx hb dL_law_314 rfl (lv_at hl 1 rfl) ?_
      refine lv_iload hx hb dL_law_315 (lv_at hl 6 rfl) ?_
      refine lv_iconst (v := (4 : Int32)) hx hb dL_law_317 (by decide) ?_
      refine lv_iadd hx hb dL_law_318 ?_
      refine va_sld hx hb hX hbl hbA hS (fw_in_e g19) dL_law_319 ?_
      obtain ⟨μ22, r22, hc22, h⟩ := fw_b2_e h
      refine fw_ret (va_runV (As := [.int (xs (x5 + (1 : Int32)).toNatClampNeg), .int (0 : Int32), .int (xs (x5 + (3 : Int32)).toNatClampNeg), .int (xs (x5 + (4 : Int32)).toNatClampNeg)]) (rest := []) ⟨hx, hb, hml, hown, hU⟩ (k_X10_bring l hE (xs (x5 + (1 : Int32)).toNatClampNeg) (0 : Int32) (xs (x5 + (3 : Int32)).toNatClampNeg) (xs (x5 + (4 : Int32)).toNatClampNeg) hc22) (cwV 4 hU (fw_gV m_1182 m_1183 m_1184 m_9 m_1185) rfl rfl rfl (by decide +kernel) ⟨(Nat.le_of_ble_eq_true rfl), (Nat.le_of_ble_eq_true rfl)⟩) ⟨fw_blind, fw_recv hK hP (fw_V0 (f := 18) (by decide) (by decide)) rfl rfl, fun U hU9 hW9 => ⟨rfl, fw_pre hK hP hSt hS U hU9 hW9⟩⟩ rfl rfl hl.1 rfl (lv_room (Nat.le_of_ble_eq_true rfl)) dL_law_320 ⟨by show _ ≤ 603072; omega, by show _ ≤ 7182442; omega⟩) hS (fun H locs hP hS => ?_)
      refine lv_istore (lv' := [(7, .int r22), (6, .int r20), (0, .ref b), (1, .ref (fw_ad E 0 10)), (2, .ref (fw_ad E 0 18)), (3, .ref (fw_ad E 0 27)), (4, .ref (fw_ad E 0 28)), (5, .int x5)]) hx hb dL_law_323 hl (by decide) rfl (fun ls hl => ?_)
      refine lv_aload_n hx hb dL_law_325 rfl (lv_at hl 4 rfl) ?_
      obtain ⟨r23, hc23, h⟩ := fw_b1_e h
      refine fw_ret (va_runV (As := []) (rest := []) ⟨hx, hb, hml, hown, hU⟩ (k_X10_thrown l hE hc23) (cwV 0 hU (fw_gV m_1178 m_1179 m_1180 m_9 m_1181) rfl rfl rfl (by decide +kernel) ⟨(Nat.le_of_ble_eq_true rfl), (Nat.le_of_ble_eq_true rfl)⟩) ⟨fw_blind, fw_recv hK hP (fw_V0 (f := 18) (by decide) (by decide)) rfl rfl, fun U hU9 hW9 => ⟨rfl, fw_pre hK hP hSt hS U hU9 hW9⟩⟩ rfl rfl hl.1 rfl (lv_room (Nat.le_of_ble_eq_true rfl)) dL_law_326 ⟨by show _ ≤ 603072; omega, by show _ ≤ 7182442; omega⟩) hS (fun H locs hP hS => ?_)
      refine lv_iload hx hb dL_law_329 (lv_at hl 1 rfl) ?_
      refine lv_icmp_eq (tgt := 336) hx hb dL_law_331 (by decide) (fun c24 => ?_) (fun c24 => ?_)
      · rw [if_pos c24] at h
        refine lv_iload hx hb dL_law_336 (lv_at hl 1 rfl) ?_
        refine lv_if_ne (tgt := 353) hx hb dL_law_338 (by decide) (fun c25 => ?_) (fun c25 => ?_)
        · rw [if_neg c25] at h
          refine lv_goto (tgt := 2765) hx hb dL_law_353 (by decide) ?_
          refine lv_iinc (v := (x5 + (5 : Int32))) (lv' := [(5, .int (x5 + (5 : Int32))), (7, .int r22), (6, .int r20), (0, .ref b), (1, .ref (fw_ad E 0 10)), (2, .ref (fw_ad E 0 18)), (3, .ref (fw_ad E 0 27)), (4, .ref (fw_ad E 0 28))]) hx hb dL_law_2765 hl (k := 7) rfl rfl (by decide) rfl (fun ls hl => ?_)
          refine lv_goto (tgt := 28) hx hb dL_law_2768 (by decide) ?_
          exact ih _ _ _ _ H locs ls _ _ h hP hS (lv_sub hl [3, 4, 5, 6, 7, 0] rfl) (by omega) (by omega)
        · rw [if_pos c25] at h
          refine lv_aload_n hx hb dL_law_341 rfl (lv_at hl 5 rfl) ?_
          refine lv_iconst (v := (0 : Int32)) hx hb dL_law_342 (by decide) ?_
          refine va_lald (D := fw_D E) hx hb hK (fw_at hP (fw_V0 (f := 27) (by decide) (by decide))) 0 6 rfl rfl (fw_in_e (n := 1) (by decide)) dL_law_343 ?_
          refine lv_iload hx hb dL_law_344 (lv_at hl 0 rfl) ?_
          refine lv_i2l (v := r22.toInt64) hx hb dL_law_346 rfl ?_
          refine W.lcmp hx hb dL_law_347 ?_
          refine lv_if_eq (tgt := 353) hx hb dL_law_348 (by decide) (fun c26 => ?_) (fun c26 => ?_)
          · rw [if_pos c26] at h
            refine lv_goto (tgt := 2765) hx hb dL_law_353 (by decide) ?_
            refine lv_iinc (v := (x5 + (5 : Int32))) (lv' := [(5, .int (x5 + (5 : Int32))), (7, .int r22), (6, .int r20), (0, .ref b), (1, .ref (fw_ad E 0 10)), (2, .ref (fw_ad E 0 18)), (3, .ref (fw_ad E 0 27)), (4, .ref (fw_ad E 0 28))]) hx hb dL_law_2765 hl (k := 7) rfl rfl (by decide) rfl (fun ls hl => ?_)
            refine lv_goto (tgt := 28) hx hb dL_law_2768 (by decide) ?_
            exact ih _ _ _ _ H locs ls _ _ h hP hS (lv_sub hl [3, 4, 5, 6, 7, 0] rfl) (by omega) (by omega)
          · rw [if_neg c26] at h
            refine lv_iconst (v := (0 : Int32)) hx hb dL_law_351 (by decide) ?_
            cases h
      · rw [if_neg c24] at h
        refine lv_iconst (v := (0 : Int32)) hx hb dL_law_334 (by decide) ?_
        cases h
    · rw [if_neg c21] at h
      refine lv_iconst (v := (1 : Int32)) hx hb dL_law_303 (by decide) ?_
      refine lv_goto (tgt := 308) hx hb dL_law_304 (by decide) ?_
      refine lv_aload_n hx hb dL_law_308 rfl (lv_at hl 1 rfl) ?_
      refine lv_iload hx hb dL_law_309 (lv_at hl 6 rfl) ?_
      refine lv_iconst (v := (3 : Int32)) hx hb dL_law_311 (by decide) ?_
      refine lv_iadd hx hb dL_law_312 ?_
      refine va_sld hx hb hX hbl hbA hS (fw_in_e g18) dL_law_313 ?_
      refine lv_aload_n hx hb dL_law_314 rfl (lv_at hl 1 rfl) ?_
      refine lv_iload hx hb dL_law_315 (lv_at hl 6 rfl) ?_
      refine lv_iconst (v := (4 : Int32)) hx hb dL_law_317 (by decide) ?_
      refine lv_iadd hx hb dL_law_318 ?_
      refine va_sld hx hb hX hbl hbA hS (fw_in_e g19) dL_law_319 ?_
      obtain ⟨μ27, r27, hc27, h⟩ := fw_b2_e h
      refine fw_ret (va_runV (As := [.int (xs (x5 + (1 : Int32)).toNatClampNeg), .int (1 : Int32), .int (xs (x5 + (3 : Int32)).toNatClampNeg), .int (xs (x5 + (4 : Int32)).toNatClampNeg)]) (rest := []) ⟨hx, hb, hml, hown, hU⟩ (k_X10_bring l hE (xs (x5 + (1 : Int32)).toNatClampNeg) (1 : Int32) (xs (x5 + (3 : Int32)).toNatClampNeg) (xs (x5 + (4 : Int32)).toNatClampNeg) hc27) (cwV 4 hU (fw_gV m_1182 m_1183 m_1184 m_9 m_1185) rfl rfl rfl (by decide +kernel) ⟨(Nat.le_of_ble_eq_true rfl), (Nat.le_of_ble_eq_true rfl)⟩) ⟨fw_blind, fw_recv hK hP (fw_V0 (f := 18) (by decide) (by decide)) rfl rfl, fun U hU9 hW9 => ⟨rfl, fw_pre hK hP hSt hS U hU9 hW9⟩⟩ rfl rfl hl.1 rfl (lv_room (Nat.le_of_ble_eq_true rfl)) dL_law_320 ⟨by show _ ≤ 603072; omega, by show _ ≤ 7182442; omega⟩) hS (fun H locs hP hS => ?_)
      refine lv_istore (lv' := [(7, .int r27), (6, .int r20), (0, .ref b), (1, .ref (fw_ad E 0 10)), (2, .ref (fw_ad E 0 18)), (3, .ref (fw_ad E 0 27)), (4, .ref (fw_ad E 0 28)), (5, .int x5)]) hx hb dL_law_323 hl (by decide) rfl (fun ls hl => ?_)
      refine lv_aload_n hx hb dL_law_325 rfl (lv_at hl 4 rfl) ?_
      obtain ⟨r28, hc28, h⟩ := fw_b1_e h
      refine fw_ret (va_runV (As := []) (rest := []) ⟨hx, hb, hml, hown, hU⟩ (k_X10_thrown l hE hc28) (cwV 0 hU (fw_gV m_1178 m_1179 m_1180 m_9 m_1181) rfl rfl rfl (by decide +kernel) ⟨(Nat.le_of_ble_eq_true rfl), (Nat.le_of_ble_eq_true rfl)⟩) ⟨fw_blind, fw_recv hK hP (fw_V0 (f := 18) (by decide) (by decide)) rfl rfl, fun U hU9 hW9 => ⟨rfl, fw_pre hK hP hSt hS U hU9 hW9⟩⟩ rfl rfl hl.1 rfl (lv_room (Nat.le_of_ble_eq_true rfl)) dL_law_326 ⟨by show _ ≤ 603072; omega, by show _ ≤ 7182442; omega⟩) hS (fun H locs hP hS => ?_)
      refine lv_iload hx hb dL_law_329 (lv_at hl 1 rfl) ?_
      refine lv_icmp_eq (tgt := 336) hx hb dL_law_331 (by decide) (fun c29 => ?_) (fun c29 => ?_)
      · rw [if_pos c29] at h
        refine lv_iload hx hb dL_law_336 (lv_at hl 1 rfl) ?_
        refine lv_if_ne (tgt := 353) hx hb dL_law_338 (by decide) (fun c30 => ?_) (fun c30 => ?_)
        · rw [if_neg c30] at h
          refine lv_goto (tgt := 2765) hx hb dL_law_353 (by decide) ?_
          refine lv_iinc (v := (x5 + (5 : Int32))) (lv' := [(5, .int (x5 + (5 : Int32))), (7, .int r27), (6, .int r20), (0, .ref b), (1, .ref (fw_ad E 0 10)), (2, .ref (fw_ad E 0 18)), (3, .ref (fw_ad E 0 27)), (4, .ref (fw_ad E 0 28))]) hx hb dL_law_2765 hl (k := 7) rfl rfl (by decide) rfl (fun ls hl => ?_)
          refine lv_goto (tgt := 28) hx hb dL_law_2768 (by decide) ?_
          exact ih _ _ _ _ H locs ls _ _ h hP hS (lv_sub hl [3, 4, 5, 6, 7, 0] rfl) (by omega) (by omega)
        · rw [if_pos c30] at h
          refine lv_aload_n hx hb dL_law_341 rfl (lv_at hl 5 rfl) ?_
          refine lv_iconst (v := (0 : Int32)) hx hb dL_law_342 (by decide) ?_
          refine va_lald (D := fw_D E) hx hb hK (fw_at hP (fw_V0 (f := 27) (by decide) (by decide))) 0 6 rfl rfl (fw_in_e (n := 1) (by decide)) dL_law_343 ?_
          refine lv_iload hx hb dL_law_344 (lv_at hl 0 rfl) ?_
          refine lv_i2l (v := r27.toInt64) hx hb dL_law_346 rfl ?_
          refine W.lcmp hx hb dL_law_347 ?_
          refine lv_if_eq (tgt := 353) hx hb dL_law_348 (by decide) (fun c31 => ?_) (fun c31 => ?_)
          · rw [if_pos c31] at h
            refine lv_goto (tgt := 2765) hx hb dL_law_353 (by decide) ?_
            refine lv_iinc (v := (x5 + (5 : Int32))) (lv' := [(5, .int (x5 + (5 : Int32))), (7, .int r27), (6, .int r20), (0, .ref b), (1, .ref (fw_ad E 0 10)), (2, .ref (fw_ad E 0 18)), (3, .ref (fw_ad E 0 27)), (4, .ref (fw_ad E 0 28))]) hx hb dL_law_2765 hl (k := 7) rfl rfl (by decide) rfl (fun ls hl => ?_)
            refine lv_goto (tgt := 28) hx hb dL_law_2768 (by decide) ?_
            exact ih _ _ _ _ H locs ls _ _ h hP hS (lv_sub hl [3, 4, 5, 6, 7, 0] rfl) (by omega) (by omega)
          · rw [if_neg c31] at h
            refine lv_iconst (v := (0 : Int32)) hx hb dL_law_351 (by decide) ?_
            cases h
      · rw [if_neg c29] at h
        refine lv_iconst (v := (0 : Int32)) hx hb dL_law_334 (by decide) ?_
        cases h
set_option maxHeartbeats 4000000 in
set_option maxRecDepth 100000 in
theorem law_C356 {p : Program} {l : Launch} {e : Env} {s : State} {m : MethodId} {below : List Frame} {meth : Method} {c : Code} {b L : Nat} {xs : Nat → Int32} {E : fw_E} {Q : State → Prop} (C0 : lc_At p l s m meth c b L xs E) (n : Nat) (K : fw_M → Int64 → UInt64 → Int32 → Option Unit) (ih : ∀ (μ : fw_M) (o : Int64) (d : UInt64) (x5 : Int32) (H : Heap) (locs : List Loc) (ls : Array Slot) (cells slots : Nat), K μ o d x5 = some () → fw_P E o d μ H → va_S (fw_A E) s.heap H locs → lv_has ls 9 [(0, .ref b), (1, .ref (fw_ad E 0 10)), (2, .ref (fw_ad E 0 18)), (3, .ref (fw_ad E 0 27)), (4, .ref (fw_ad E 0 28)), (5, .int x5)] → cells + 4 * n ≤ 603072 → slots + 24 * n ≤ 7182442 → W p l e room_1 s m #[Value.ref b] below meth c H locs cells slots Q (F0 m 28 ls [])) : ∀ (μ : fw_M) (o : Int64) (d : UInt64) (x5 : Int32) (H : Heap) (locs : List Loc) (ls : Array Slot) (cells slots : Nat), f_law_C356 K xs L μ o d x5 = some () → fw_P E o d μ H → va_S (fw_A E) s.heap H locs → lv_has ls 9 [(0, .ref b), (1, .ref (fw_ad E 0 10)), (2, .ref (fw_ad E 0 18)), (3, .ref (fw_ad E 0 27)), (4, .ref (fw_ad E 0 28)), (5, .int x5)] → cells + 4 * (n + 1) ≤ 603072 → slots + 24 * (n + 1) ≤ 7182442 → W p l e room_1 s m #[Value.ref b] below meth c H locs cells slots Q (F0 m 356 ls []) := by
  obtain ⟨hx, hb, hml, hown, hU, hK, hSt, hN2, hE, hst, hX, hbl, hbA, hz⟩ := C0
  intro μ o d x5 H locs ls cells slots h hP hS hl hc1 hc2
  unfold f_law_C356 at h
  refine lv_aload_n hx hb dL_law_356 rfl (lv_at hl 1 rfl) ?_
  refine lv_aload_n hx hb dL_law_357 rfl (lv_at hl 0 rfl) ?_
  refine lv_iload hx hb dL_law_358 (lv_at hl 5 rfl) ?_
  refine lv_iconst (v := (1 : Int32)) hx hb dL_law_360 (by decide) ?_
  refine lv_iadd hx hb dL_law_361 ?_
  obtain ⟨g32, h⟩ := fw_g_e h
  refine va_sld hx hb hX hbl hbA hS (fw_in_e g32) dL_law_362 ?_
  refine lv_aload_n hx hb dL_law_363 rfl (lv_at hl 0 rfl) ?_
  refine lv_iload hx hb dL_law_364 (lv_at hl 5 rfl) ?_
  refine lv_iconst (v := (2 : Int32)) hx hb dL_law_366 (by decide) ?_
  refine lv_iadd hx hb dL_law_367 ?_
  obtain ⟨g33, h⟩ := fw_g_e h
  refine va_sld hx hb hX hbl hbA hS (fw_in_e g33) dL_law_368 ?_
  refine lv_aload_n hx hb dL_law_369 rfl (lv_at hl 3 rfl) ?_
  obtain ⟨μ34, o34, d34, r34, hc34, h⟩ := fw_b4_e h
  refine fw_retL (vx_runSW (As := [.ref (fw_ad E 0 10), .int (xs (x5 + (1 : Int32)).toNatClampNeg), .int (xs (x5 + (2 : Int32)).toNatClampNeg), .ref (fw_ad E 0 27)]) (rest := []) ⟨hx, hb, hml, hown, hU⟩ (k_L_load l hst hE (xs (x5 + (1 : Int32)).toNatClampNeg) (xs (x5 + (2 : Int32)).toNatClampNeg) hc34) (vx_cwSW 4 hU (fw_gSW m_532 m_533 m_0 m_534) rfl rfl rfl (by decide +kernel) ⟨(Nat.le_of_ble_eq_true rfl), (Nat.le_of_ble_eq_true rfl)⟩) ⟨fw_blind2, fun U hU9 hW9 => ⟨rfl, fw_pre hK hP hSt hS U hU9 hW9, fw_S2_go hN2 hW9⟩⟩ rfl rfl hl.1 rfl (lv_room (Nat.le_of_ble_eq_true rfl)) dL_law_370 ⟨by show _ ≤ 603072; omega, by show _ ≤ 7182442; omega⟩) hS (fun H locs hP hS => ?_)
  refine lv_istore (lv' := [(6, .int r34), (0, .ref b), (1, .ref (fw_ad E 0 10)), (2, .ref (fw_ad E 0 18)), (3, .ref (fw_ad E 0 27)), (4, .ref (fw_ad E 0 28)), (5, .int x5)]) hx hb dL_law_373 hl (by decide) rfl (fun ls hl => ?_)
  refine lv_aload_n hx hb dL_law_375 rfl (lv_at hl 3 rfl) ?_
  refine lv_aload_n hx hb dL_law_376 rfl (lv_at hl 1 rfl) ?_
  refine lv_iload hx hb dL_law_377 (lv_at hl 6 rfl) ?_
  refine lv_iconst (v := (1 : Int32)) hx hb dL_law_379 (by decide) ?_
  refine lv_iadd hx hb dL_law_380 ?_
  refine va_sld hx hb hX hbl hbA hS (fw_in_e g32) dL_law_381 ?_
  refine lv_aload_n hx hb dL_law_382 rfl (lv_at hl 1 rfl) ?_
  refine lv_iload hx hb dL_law_383 (lv_at hl 6 rfl) ?_
  refine lv_iconst (v := (2 : Int32)) hx hb dL_law_385 (by decide) ?_
  refine lv_iadd hx hb dL_law_386 ?_
  refine va_sld hx hb hX hbl hbA hS (fw_in_e g33) dL_law_387 ?_
  obtain ⟨μ35, r35, hc35, h⟩ := fw_b2_e h
  refine fw_ret (va_runV (As := [.int (xs (x5 + (1 : Int32)).toNatClampNeg), .int (xs (x5 + (2 : Int32)).toNatClampNeg)]) (rest := []) ⟨hx, hb, hml, hown, hU⟩ (k_X10_load l hE (xs (x5 + (1 : Int32)).toNatClampNeg) (xs (x5 + (2 : Int32)).toNatClampNeg) hc35) (cwV 2 hU (fw_gV m_1220 m_1221 m_1222 m_9 m_1223) rfl rfl rfl (by decide +kernel) ⟨(Nat.le_of_ble_eq_true rfl), (Nat.le_of_ble_eq_true rfl)⟩) ⟨fw_blind, fw_recv hK hP (fw_V0 (f := 18) (by decide) (by decide)) rfl rfl, fun U hU9 hW9 => ⟨rfl, fw_pre hK hP hSt hS U hU9 hW9⟩⟩ rfl rfl hl.1 rfl (lv_room (Nat.le_of_ble_eq_true rfl)) dL_law_388 ⟨by show _ ≤ 603072; omega, by show _ ≤ 7182442; omega⟩) hS (fun H locs hP hS => ?_)
  refine lv_istore (lv' := [(7, .int r35), (6, .int r34), (0, .ref b), (1, .ref (fw_ad E 0 10)), (2, .ref (fw_ad E 0 18)), (3, .ref (fw_ad E 0 27)), (4, .ref (fw_ad E 0 28)), (5, .int x5)]) hx hb dL_law_391 hl (by decide) rfl (fun ls hl => ?_)
  refine lv_aload_n hx hb dL_law_393 rfl (lv_at hl 4 rfl) ?_
  obtain ⟨r36, hc36, h⟩ := fw_b1_e h
  refine fw_ret (va_runV (As := []) (rest := []) ⟨hx, hb, hml, hown, hU⟩ (k_X10_thrown l hE hc36) (cwV 0 hU (fw_gV m_1178 m_1179 m_1180 m_9 m_1181) rfl rfl rfl (by decide +kernel) ⟨(Nat.le_of_ble_eq_true rfl), (Nat.le_of_ble_eq_true rfl)⟩) ⟨fw_blind, fw_recv hK hP (fw_V0 (f := 18) (by decide) (by decide)) rfl rfl, fun U hU9 hW9 => ⟨rfl, fw_pre hK hP hSt hS U hU9 hW9⟩⟩ rfl rfl hl.1 rfl (lv_room (Nat.le_of_ble_eq_true rfl)) dL_law_394 ⟨by show _ ≤ 603072; omega, by show _ ≤ 7182442; omega⟩) hS (fun H locs hP hS => ?_)
  refine lv_iload hx hb dL_law_397 (lv_at hl 1 rfl) ?_
  refine lv_icmp_eq (tgt := 404) hx hb dL_law_399 (by decide) (fun c37 => ?_) (fun c37 => ?_)
  · rw [if_pos c37] at h
    refine lv_iload hx hb dL_law_404 (lv_at hl 1 rfl) ?_
    refine lv_if_ne (tgt := 421) hx hb dL_law_406 (by decide) (fun c38 => ?_) (fun c38 => ?_)
    · rw [if_neg c38] at h
      refine lv_goto (tgt := 2765) hx hb dL_law_421 (by decide) ?_
      refine lv_iinc (v := (x5 + (5 : Int32))) (lv' := [(5, .int (x5 + (5 : Int32))), (7, .int r35), (6, .int r34), (0, .ref b), (1, .ref (fw_ad E 0 10)), (2, .ref (fw_ad E 0 18)), (3, .ref (fw_ad E 0 27)), (4, .ref (fw_ad E 0 28))]) hx hb dL_law_2765 hl (k := 7) rfl rfl (by decide) rfl (fun ls hl => ?_)
      refine lv_goto (tgt := 28) hx hb dL_law_2768 (by decide) ?_
      exact ih _ _ _ _ H locs ls _ _ h hP hS (lv_sub hl [3, 4, 5, 6, 7, 0] rfl) (by omega) (by omega)
    · rw [if_pos c38] at h
      refine lv_aload_n hx hb dL_law_409 rfl (lv_at hl 5 rfl) ?_
      refine lv_iconst (v := (0 : Int32)) hx hb dL_law_410 (by decide) ?_
      refine va_lald (D := fw_D E) hx hb hK (fw_at hP (fw_V0 (f := 27) (by decide) (by decide))) 0 6 rfl rfl (fw_in_e (n := 1) (by decide)) dL_law_411 ?_
      refine lv_iload hx hb dL_law_412 (lv_at hl 0 rfl) ?_
      refine lv_i2l (v := r35.toInt64) hx hb dL_law_414 rfl ?_
      refine W.lcmp hx hb dL_law_415 ?_
      refine lv_if_eq (tgt := 421) hx hb dL_law_416 (by decide) (fun c39 => ?_) (fun c39 => ?_)
      · rw [if_pos c39] at h
        refine lv_goto (tgt := 2765) hx hb dL_law_421 (by decide) ?_
        refine lv_iinc (v := (x5 + (5 : Int32))) (lv' := [(5, .int (x5 + (5 : Int32))), (7, .int r35), (6, .int r34), (0, .ref b), (1, .ref (fw_ad E 0 10)), (2, .ref (fw_ad E 0 18)), (3, .ref (fw_ad E 0 27)), (4, .ref (fw_ad E 0 28))]) hx hb dL_law_2765 hl (k := 7) rfl rfl (by decide) rfl (fun ls hl => ?_)
        refine lv_goto (tgt := 28) hx hb dL_law_2768 (by decide) ?_
        exact ih _ _ _ _ H locs ls _ _ h hP hS (lv_sub hl [3, 4, 5, 6, 7, 0] rfl) (by omega) (by omega)
      · rw [if_neg c39] at h
        refine lv_iconst (v := (0 : Int32)) hx hb dL_law_419 (by decide) ?_
        cases h
  · rw [if_neg c37] at h
    refine lv_iconst (v := (0 : Int32)) hx hb dL_law_402 (by decide) ?_
    cases h
set_option maxHeartbeats 4000000 in
set_option maxRecDepth 100000 in
theorem law_C424 {p : Program} {l : Launch} {e : Env} {s : State} {m : MethodId} {below : List Frame} {meth : Method} {c : Code} {b L : Nat} {xs : Nat → Int32} {E : fw_E} {Q : State → Prop} (C0 : lc_At p l s m meth c b L xs E) (n : Nat) (K : fw_M → Int64 → UInt64 → Int32 → Option Unit) (ih : ∀ (μ : fw_M) (o : Int64) (d : UInt64) (x5 : Int32) (H : Heap) (locs : List Loc) (ls : Array Slot) (cells slots : Nat), K μ o d x5 = some () → fw_P E o d μ H → va_S (fw_A E) s.heap H locs → lv_has ls 9 [(0, .ref b), (1, .ref (fw_ad E 0 10)), (2, .ref (fw_ad E 0 18)), (3, .ref (fw_ad E 0 27)), (4, .ref (fw_ad E 0 28)), (5, .int x5)] → cells + 4 * n ≤ 603072 → slots + 24 * n ≤ 7182442 → W p l e room_1 s m #[Value.ref b] below meth c H locs cells slots Q (F0 m 28 ls [])) : ∀ (μ : fw_M) (o : Int64) (d : UInt64) (x5 : Int32) (H : Heap) (locs : List Loc) (ls : Array Slot) (cells slots : Nat), f_law_C424 K xs L μ o d x5 = some () → fw_P E o d μ H → va_S (fw_A E) s.heap H locs → lv_has ls 9 [(0, .ref b), (1, .ref (fw_ad E 0 10)), (2, .ref (fw_ad E 0 18)), (3, .ref (fw_ad E 0 27)), (4, .ref (fw_ad E 0 28)), (5, .int x5)] → cells + 4 * (n + 1) ≤ 603072 → slots + 24 * (n + 1) ≤ 7182442 → W p l e room_1 s m #[Value.ref b] below meth c H locs cells slots Q (F0 m 424 ls []) := by
  obtain ⟨hx, hb, hml, hown, hU, hK, hSt, hN2, hE, hst, hX, hbl, hbA, hz⟩ := C0
  intro μ o d x5 H locs ls cells slots h hP hS hl hc1 hc2
  unfold f_law_C424 at h
  refine lv_aload_n hx hb dL_law_424 rfl (lv_at hl 1 rfl) ?_
  refine lv_aload_n hx hb dL_law_425 rfl (lv_at hl 0 rfl) ?_
  refine lv_iload hx hb dL_law_426 (lv_at hl 5 rfl) ?_
  refine lv_iconst (v := (1 : Int32)) hx hb dL_law_428 (by decide) ?_
  refine lv_iadd hx hb dL_law_429 ?_
  obtain ⟨g40, h⟩ := fw_g_e h
  refine va_sld hx hb hX hbl hbA hS (fw_in_e g40) dL_law_430 ?_
  refine lv_aload_n hx hb dL_law_431 rfl (lv_at hl 3 rfl) ?_
  obtain ⟨μ41, o41, d41, r41, hc41, h⟩ := fw_b4_e h
  refine fw_retL (vx_runSW (As := [.ref (fw_ad E 0 10), .int (xs (x5 + (1 : Int32)).toNatClampNeg), .ref (fw_ad E 0 27)]) (rest := []) ⟨hx, hb, hml, hown, hU⟩ (k_L_takeOut l hst hE (xs (x5 + (1 : Int32)).toNatClampNeg) hc41) (vx_cwSW 3 hU (fw_gSW m_557 m_558 m_0 m_559) rfl rfl rfl (by decide +kernel) ⟨(Nat.le_of_ble_eq_true rfl), (Nat.le_of_ble_eq_true rfl)⟩) ⟨fw_blind2, fun U hU9 hW9 => ⟨rfl, fw_pre hK hP hSt hS U hU9 hW9, fw_S2_go hN2 hW9⟩⟩ rfl rfl hl.1 rfl (lv_room (Nat.le_of_ble_eq_true rfl)) dL_law_432 ⟨by show _ ≤ 603072; omega, by show _ ≤ 7182442; omega⟩) hS (fun H locs hP hS => ?_)
  refine lv_istore (lv' := [(6, .int r41), (0, .ref b), (1, .ref (fw_ad E 0 10)), (2, .ref (fw_ad E 0 18)), (3, .ref (fw_ad E 0 27)), (4, .ref (fw_ad E 0 28)), (5, .int x5)]) hx hb dL_law_435 hl (by decide) rfl (fun ls hl => ?_)
  refine lv_aload_n hx hb dL_law_437 rfl (lv_at hl 3 rfl) ?_
  refine lv_aload_n hx hb dL_law_438 rfl (lv_at hl 1 rfl) ?_
  refine lv_iload hx hb dL_law_439 (lv_at hl 6 rfl) ?_
  refine lv_iconst (v := (1 : Int32)) hx hb dL_law_441 (by decide) ?_
  refine lv_iadd hx hb dL_law_442 ?_
  refine va_sld hx hb hX hbl hbA hS (fw_in_e g40) dL_law_443 ?_
  obtain ⟨μ42, r42, hc42, h⟩ := fw_b2_e h
  refine fw_ret (va_runV (As := [.int (xs (x5 + (1 : Int32)).toNatClampNeg)]) (rest := []) ⟨hx, hb, hml, hown, hU⟩ (k_X10_takeOut l hE (xs (x5 + (1 : Int32)).toNatClampNeg) hc42) (cwV 1 hU (fw_gV m_1247 m_1248 m_1249 m_9 m_1250) rfl rfl rfl (by decide +kernel) ⟨(Nat.le_of_ble_eq_true rfl), (Nat.le_of_ble_eq_true rfl)⟩) ⟨fw_blind, fw_recv hK hP (fw_V0 (f := 18) (by decide) (by decide)) rfl rfl, fun U hU9 hW9 => ⟨rfl, fw_pre hK hP hSt hS U hU9 hW9⟩⟩ rfl rfl hl.1 rfl (lv_room (Nat.le_of_ble_eq_true rfl)) dL_law_444 ⟨by show _ ≤ 603072; omega, by show _ ≤ 7182442; omega⟩) hS (fun H locs hP hS => ?_)
  refine lv_istore (lv' := [(7, .int r42), (6, .int r41), (0, .ref b), (1, .ref (fw_ad E 0 10)), (2, .ref (fw_ad E 0 18)), (3, .ref (fw_ad E 0 27)), (4, .ref (fw_ad E 0 28)), (5, .int x5)]) hx hb dL_law_447 hl (by decide) rfl (fun ls hl => ?_)
  refine lv_aload_n hx hb dL_law_449 rfl (lv_at hl 4 rfl) ?_
  obtain ⟨r43, hc43, h⟩ := fw_b1_e h
  refine fw_ret (va_runV (As := []) (rest := []) ⟨hx, hb, hml, hown, hU⟩ (k_X10_thrown l hE hc43) (cwV 0 hU (fw_gV m_1178 m_1179 m_1180 m_9 m_1181) rfl rfl rfl (by decide +kernel) ⟨(Nat.le_of_ble_eq_true rfl), (Nat.le_of_ble_eq_true rfl)⟩) ⟨fw_blind, fw_recv hK hP (fw_V0 (f := 18) (by decide) (by decide)) rfl rfl, fun U hU9 hW9 => ⟨rfl, fw_pre hK hP hSt hS U hU9 hW9⟩⟩ rfl rfl hl.1 rfl (lv_room (Nat.le_of_ble_eq_true rfl)) dL_law_450 ⟨by show _ ≤ 603072; omega, by show _ ≤ 7182442; omega⟩) hS (fun H locs hP hS => ?_)
  refine lv_iload hx hb dL_law_453 (lv_at hl 1 rfl) ?_
  refine lv_icmp_eq (tgt := 460) hx hb dL_law_455 (by decide) (fun c44 => ?_) (fun c44 => ?_)
  · rw [if_pos c44] at h
    refine lv_iload hx hb dL_law_460 (lv_at hl 1 rfl) ?_
    refine lv_if_ne (tgt := 477) hx hb dL_law_462 (by decide) (fun c45 => ?_) (fun c45 => ?_)
    · rw [if_neg c45] at h
      refine lv_goto (tgt := 2765) hx hb dL_law_477 (by decide) ?_
      refine lv_iinc (v := (x5 + (5 : Int32))) (lv' := [(5, .int (x5 + (5 : Int32))), (7, .int r42), (6, .int r41), (0, .ref b), (1, .ref (fw_ad E 0 10)), (2, .ref (fw_ad E 0 18)), (3, .ref (fw_ad E 0 27)), (4, .ref (fw_ad E 0 28))]) hx hb dL_law_2765 hl (k := 7) rfl rfl (by decide) rfl (fun ls hl => ?_)
      refine lv_goto (tgt := 28) hx hb dL_law_2768 (by decide) ?_
      exact ih _ _ _ _ H locs ls _ _ h hP hS (lv_sub hl [3, 4, 5, 6, 7, 0] rfl) (by omega) (by omega)
    · rw [if_pos c45] at h
      refine lv_aload_n hx hb dL_law_465 rfl (lv_at hl 5 rfl) ?_
      refine lv_iconst (v := (0 : Int32)) hx hb dL_law_466 (by decide) ?_
      refine va_lald (D := fw_D E) hx hb hK (fw_at hP (fw_V0 (f := 27) (by decide) (by decide))) 0 6 rfl rfl (fw_in_e (n := 1) (by decide)) dL_law_467 ?_
      refine lv_iload hx hb dL_law_468 (lv_at hl 0 rfl) ?_
      refine lv_i2l (v := r42.toInt64) hx hb dL_law_470 rfl ?_
      refine W.lcmp hx hb dL_law_471 ?_
      refine lv_if_eq (tgt := 477) hx hb dL_law_472 (by decide) (fun c46 => ?_) (fun c46 => ?_)
      · rw [if_pos c46] at h
        refine lv_goto (tgt := 2765) hx hb dL_law_477 (by decide) ?_
        refine lv_iinc (v := (x5 + (5 : Int32))) (lv' := [(5, .int (x5 + (5 : Int32))), (7, .int r42), (6, .int r41), (0, .ref b), (1, .ref (fw_ad E 0 10)), (2, .ref (fw_ad E 0 18)), (3, .ref (fw_ad E 0 27)), (4, .ref (fw_ad E 0 28))]) hx hb dL_law_2765 hl (k := 7) rfl rfl (by decide) rfl (fun ls hl => ?_)
        refine lv_goto (tgt := 28) hx hb dL_law_2768 (by decide) ?_
        exact ih _ _ _ _ H locs ls _ _ h hP hS (lv_sub hl [3, 4, 5, 6, 7, 0] rfl) (by omega) (by omega)
      · rw [if_neg c46] at h
        refine lv_iconst (v := (0 : Int32)) hx hb dL_law_475 (by decide) ?_
        cases h
  · rw [if_neg c44] at h
    refine lv_iconst (v := (0 : Int32)) hx hb dL_law_458 (by decide) ?_
    cases h
set_option maxHeartbeats 4000000 in
set_option maxRecDepth 100000 in
theorem law_C480 {p : Program} {l : Launch} {e : Env} {s : State} {m : MethodId} {below : List Frame} {meth : Method} {c : Code} {b L : Nat} {xs : Nat → Int32} {E : fw_E} {Q : State → Prop} (C0 : lc_At p l s m meth c b L xs E) (n : Nat) (K : fw_M → Int64 → UInt64 → Int32 → Option Unit) (ih : ∀ (μ : fw_M) (o : Int64) (d : UInt64) (x5 : Int32) (H : Heap) (locs : List Loc) (ls : Array Slot) (cells slots : Nat), K μ o d x5 = some () → fw_P E o d μ H → va_S (fw_A E) s.heap H locs → lv_has ls 9 [(0, .ref b), (1, .ref (fw_ad E 0 10)), (2, .ref (fw_ad E 0 18)), (3, .ref (fw_ad E 0 27)), (4, .ref (fw_ad E 0 28)), (5, .int x5)] → cells + 4 * n ≤ 603072 → slots + 24 * n ≤ 7182442 → W p l e room_1 s m #[Value.ref b] below meth c H locs cells slots Q (F0 m 28 ls [])) : ∀ (μ : fw_M) (o : Int64) (d : UInt64) (x5 : Int32) (H : Heap) (locs : List Loc) (ls : Array Slot) (cells slots : Nat), f_law_C480 K xs L μ o d x5 = some () → fw_P E o d μ H → va_S (fw_A E) s.heap H locs → lv_has ls 9 [(0, .ref b), (1, .ref (fw_ad E 0 10)), (2, .ref (fw_ad E 0 18)), (3, .ref (fw_ad E 0 27)), (4, .ref (fw_ad E 0 28)), (5, .int x5)] → cells + 4 * (n + 1) ≤ 603072 → slots + 24 * (n + 1) ≤ 7182442 → W p l e room_1 s m #[Value.ref b] below meth c H locs cells slots Q (F0 m 480 ls []) := by
  obtain ⟨hx, hb, hml, hown, hU, hK, hSt, hN2, hE, hst, hX, hbl, hbA, hz⟩ := C0
  intro μ o d x5 H locs ls cells slots h hP hS hl hc1 hc2
  unfold f_law_C480 at h
  refine lv_aload_n hx hb dL_law_480 rfl (lv_at hl 1 rfl) ?_
  refine lv_aload_n hx hb dL_law_481 rfl (lv_at hl 0 rfl) ?_
  refine lv_iload hx hb dL_law_482 (lv_at hl 5 rfl) ?_
  refine lv_iconst (v := (1 : Int32)) hx hb dL_law_484 (by decide) ?_
  refine lv_iadd hx hb dL_law_485 ?_
  obtain ⟨g47, h⟩ := fw_g_e h
  refine va_sld hx hb hX hbl hbA hS (fw_in_e g47) dL_law_486 ?_
  refine lv_aload_n hx hb dL_law_487 rfl (lv_at hl 0 rfl) ?_
  refine lv_iload hx hb dL_law_488 (lv_at hl 5 rfl) ?_
  refine lv_iconst (v := (2 : Int32)) hx hb dL_law_490 (by decide) ?_
  refine lv_iadd hx hb dL_law_491 ?_
  obtain ⟨g48, h⟩ := fw_g_e h
  refine va_sld hx hb hX hbl hbA hS (fw_in_e g48) dL_law_492 ?_
  refine lv_aload hx hb dL_law_493 (lv_at hl 4 rfl) ?_
  obtain ⟨μ49, o49, d49, r49, hc49, h⟩ := fw_b4_e h
  refine fw_retL (vx_runSW (As := [.ref (fw_ad E 0 10), .int (xs (x5 + (1 : Int32)).toNatClampNeg), .int (xs (x5 + (2 : Int32)).toNatClampNeg), .ref (fw_ad E 0 28)]) (rest := []) ⟨hx, hb, hml, hown, hU⟩ (k_L_setTemperature l hst hE (xs (x5 + (1 : Int32)).toNatClampNeg) (xs (x5 + (2 : Int32)).toNatClampNeg) hc49) (vx_cwSW 4 hU (fw_gSW m_572 m_573 m_0 m_574) rfl rfl rfl (by decide +kernel) ⟨(Nat.le_of_ble_eq_true rfl), (Nat.le_of_ble_eq_true rfl)⟩) ⟨fw_blind2, fun U hU9 hW9 => ⟨rfl, fw_pre hK hP hSt hS U hU9 hW9, fw_S2_go hN2 hW9⟩⟩ rfl rfl hl.1 rfl (lv_room (Nat.le_of_ble_eq_true rfl)) dL_law_495 ⟨by show _ ≤ 603072; omega, by show _ ≤ 7182442; omega⟩) hS (fun H locs hP hS => ?_)
  refine lv_istore (lv' := [(6, .int r49), (0, .ref b), (1, .ref (fw_ad E 0 10)), (2, .ref (fw_ad E 0 18)), (3, .ref (fw_ad E 0 27)), (4, .ref (fw_ad E 0 28)), (5, .int x5)]) hx hb dL_law_498 hl (by decide) rfl (fun ls hl => ?_)
  refine lv_aload_n hx hb dL_law_500 rfl (lv_at hl 3 rfl) ?_
  refine lv_aload_n hx hb dL_law_501 rfl (lv_at hl 1 rfl) ?_
  refine lv_iload hx hb dL_law_502 (lv_at hl 6 rfl) ?_
  refine lv_iconst (v := (1 : Int32)) hx hb dL_law_504 (by decide) ?_
  refine lv_iadd hx hb dL_law_505 ?_
  refine va_sld hx hb hX hbl hbA hS (fw_in_e g47) dL_law_506 ?_
  refine lv_aload_n hx hb dL_law_507 rfl (lv_at hl 1 rfl) ?_
  refine lv_iload hx hb dL_law_508 (lv_at hl 6 rfl) ?_
  refine lv_iconst (v := (2 : Int32)) hx hb dL_law_510 (by decide) ?_
  refine lv_iadd hx hb dL_law_511 ?_
  refine va_sld hx hb hX hbl hbA hS (fw_in_e g48) dL_law_512 ?_
  obtain ⟨μ50, r50, hc50, h⟩ := fw_b2_e h
  refine fw_ret (va_runV (As := [.int (xs (x5 + (1 : Int32)).toNatClampNeg), .int (xs (x5 + (2 : Int32)).toNatClampNeg)]) (rest := []) ⟨hx, hb, hml, hown, hU⟩ (k_X10_setTemperature l hE (xs (x5 + (1 : Int32)).toNatClampNeg) (xs (x5 + (2 : Int32)).toNatClampNeg) hc50) (cwV 2 hU (fw_gV m_1255 m_1256 m_1257 m_9 m_1258) rfl rfl rfl (by decide +kernel) ⟨(Nat.le_of_ble_eq_true rfl), (Nat.le_of_ble_eq_true rfl)⟩) ⟨fw_blind, fw_recv hK hP (fw_V0 (f := 18) (by decide) (by decide)) rfl rfl, fun U hU9 hW9 => ⟨rfl, fw_pre hK hP hSt hS U hU9 hW9⟩⟩ rfl rfl hl.1 rfl (lv_room (Nat.le_of_ble_eq_true rfl)) dL_law_513 ⟨by show _ ≤ 603072; omega, by show _ ≤ 7182442; omega⟩) hS (fun H locs hP hS => ?_)
  refine lv_fstore (lv' := [(7, .float r50), (6, .int r49), (0, .ref b), (1, .ref (fw_ad E 0 10)), (2, .ref (fw_ad E 0 18)), (3, .ref (fw_ad E 0 27)), (4, .ref (fw_ad E 0 28)), (5, .int x5)]) hx hb dL_law_516 hl (by decide) rfl (fun ls hl => ?_)
  refine lv_aload_n hx hb dL_law_518 rfl (lv_at hl 4 rfl) ?_
  obtain ⟨r51, hc51, h⟩ := fw_b1_e h
  refine fw_ret (va_runV (As := []) (rest := []) ⟨hx, hb, hml, hown, hU⟩ (k_X10_thrown l hE hc51) (cwV 0 hU (fw_gV m_1178 m_1179 m_1180 m_9 m_1181) rfl rfl rfl (by decide +kernel) ⟨(Nat.le_of_ble_eq_true rfl), (Nat.le_of_ble_eq_true rfl)⟩) ⟨fw_blind, fw_recv hK hP (fw_V0 (f := 18) (by decide) (by decide)) rfl rfl, fun U hU9 hW9 => ⟨rfl, fw_pre hK hP hSt hS U hU9 hW9⟩⟩ rfl rfl hl.1 rfl (lv_room (Nat.le_of_ble_eq_true rfl)) dL_law_519 ⟨by show _ ≤ 603072; omega, by show _ ≤ 7182442; omega⟩) hS (fun H locs hP hS => ?_)
  refine lv_iload hx hb dL_law_522 (lv_at hl 1 rfl) ?_
  refine lv_icmp_eq (tgt := 529) hx hb dL_law_524 (by decide) (fun c52 => ?_) (fun c52 => ?_)
  · rw [if_pos c52] at h
    refine lv_iload hx hb dL_law_529 (lv_at hl 1 rfl) ?_
    refine lv_if_ne (tgt := 567) hx hb dL_law_531 (by decide) (fun c53 => ?_) (fun c53 => ?_)
    · rw [if_neg c53] at h
      refine lv_goto (tgt := 2765) hx hb dL_law_567 (by decide) ?_
      refine lv_iinc (v := (x5 + (5 : Int32))) (lv' := [(5, .int (x5 + (5 : Int32))), (7, .float r50), (6, .int r49), (0, .ref b), (1, .ref (fw_ad E 0 10)), (2, .ref (fw_ad E 0 18)), (3, .ref (fw_ad E 0 27)), (4, .ref (fw_ad E 0 28))]) hx hb dL_law_2765 hl (k := 7) rfl rfl (by decide) rfl (fun ls hl => ?_)
      refine lv_goto (tgt := 28) hx hb dL_law_2768 (by decide) ?_
      exact ih _ _ _ _ H locs ls _ _ h hP hS (lv_sub hl [3, 4, 5, 6, 7, 0] rfl) (by omega) (by omega)
    · rw [if_pos c53] at h
      refine lv_aload hx hb dL_law_534 (lv_at hl 6 rfl) ?_
      refine lv_iconst (v := (0 : Int32)) hx hb dL_law_536 (by decide) ?_
      refine va_dald (D := fw_D E) hx hb hK (fw_at hP (fw_V0 (f := 28) (by decide) (by decide))) 0 7 rfl rfl (fw_in_e (n := 1) (by decide)) dL_law_537 ?_
      refine lv_fload hx hb dL_law_538 (lv_at hl 0 rfl) ?_
      obtain ⟨g54, h⟩ := fw_g_e h
      refine lv_f2d hx hb dL_law_540 (fw_f64_e g54) ?_
      refine lv_dcmp (op := CmpOp.l) hx hb dL_law_541 ?_
      refine lv_if_eq (tgt := 567) hx hb dL_law_542 (by decide) (fun c55 => ?_) (fun c55 => ?_)
      · rw [if_pos c55] at h
        refine lv_goto (tgt := 2765) hx hb dL_law_567 (by decide) ?_
        refine lv_iinc (v := (x5 + (5 : Int32))) (lv' := [(5, .int (x5 + (5 : Int32))), (7, .float r50), (6, .int r49), (0, .ref b), (1, .ref (fw_ad E 0 10)), (2, .ref (fw_ad E 0 18)), (3, .ref (fw_ad E 0 27)), (4, .ref (fw_ad E 0 28))]) hx hb dL_law_2765 hl (k := 7) rfl rfl (by decide) rfl (fun ls hl => ?_)
        refine lv_goto (tgt := 28) hx hb dL_law_2768 (by decide) ?_
        exact ih _ _ _ _ H locs ls _ _ h hP hS (lv_sub hl [3, 4, 5, 6, 7, 0] rfl) (by omega) (by omega)
      · rw [if_neg c55] at h
        refine lv_aload hx hb dL_law_545 (lv_at hl 6 rfl) ?_
        refine lv_iconst (v := (0 : Int32)) hx hb dL_law_547 (by decide) ?_
        refine va_dald (D := fw_D E) hx hb hK (fw_at hP (fw_V0 (f := 28) (by decide) (by decide))) 0 7 rfl rfl (fw_in_e (n := 1) (by decide)) dL_law_548 ?_
        refine lv_aload hx hb dL_law_549 (lv_at hl 6 rfl) ?_
        refine lv_iconst (v := (0 : Int32)) hx hb dL_law_551 (by decide) ?_
        refine va_dald (D := fw_D E) hx hb hK (fw_at hP (fw_V0 (f := 28) (by decide) (by decide))) 0 7 rfl rfl (fw_in_e (n := 1) (by decide)) dL_law_552 ?_
        refine lv_dcmp (op := CmpOp.l) hx hb dL_law_553 ?_
        refine lv_if_eq (tgt := 565) hx hb dL_law_554 (by decide) (fun c56 => ?_) (fun c56 => ?_)
        · rw [if_pos c56] at h
          refine lv_iconst (v := (0 : Int32)) hx hb dL_law_565 (by decide) ?_
          cases h
        · rw [if_neg c56] at h
          refine lv_fload hx hb dL_law_557 (lv_at hl 0 rfl) ?_
          refine lv_fload hx hb dL_law_559 (lv_at hl 0 rfl) ?_
          refine lv_fcmp (op := CmpOp.l) hx hb dL_law_561 ?_
          refine lv_if_ne (tgt := 567) hx hb dL_law_562 (by decide) (fun c57 => ?_) (fun c57 => ?_)
          · rw [if_neg c57] at h
            refine lv_goto (tgt := 2765) hx hb dL_law_567 (by decide) ?_
            refine lv_iinc (v := (x5 + (5 : Int32))) (lv' := [(5, .int (x5 + (5 : Int32))), (7, .float r50), (6, .int r49), (0, .ref b), (1, .ref (fw_ad E 0 10)), (2, .ref (fw_ad E 0 18)), (3, .ref (fw_ad E 0 27)), (4, .ref (fw_ad E 0 28))]) hx hb dL_law_2765 hl (k := 7) rfl rfl (by decide) rfl (fun ls hl => ?_)
            refine lv_goto (tgt := 28) hx hb dL_law_2768 (by decide) ?_
            exact ih _ _ _ _ H locs ls _ _ h hP hS (lv_sub hl [3, 4, 5, 6, 7, 0] rfl) (by omega) (by omega)
          · rw [if_pos c57] at h
            refine lv_iconst (v := (0 : Int32)) hx hb dL_law_565 (by decide) ?_
            cases h
  · rw [if_neg c52] at h
    refine lv_iconst (v := (0 : Int32)) hx hb dL_law_527 (by decide) ?_
    cases h
set_option maxHeartbeats 4000000 in
set_option maxRecDepth 100000 in
theorem law_C570 {p : Program} {l : Launch} {e : Env} {s : State} {m : MethodId} {below : List Frame} {meth : Method} {c : Code} {b L : Nat} {xs : Nat → Int32} {E : fw_E} {Q : State → Prop} (C0 : lc_At p l s m meth c b L xs E) (n : Nat) (K : fw_M → Int64 → UInt64 → Int32 → Option Unit) (ih : ∀ (μ : fw_M) (o : Int64) (d : UInt64) (x5 : Int32) (H : Heap) (locs : List Loc) (ls : Array Slot) (cells slots : Nat), K μ o d x5 = some () → fw_P E o d μ H → va_S (fw_A E) s.heap H locs → lv_has ls 9 [(0, .ref b), (1, .ref (fw_ad E 0 10)), (2, .ref (fw_ad E 0 18)), (3, .ref (fw_ad E 0 27)), (4, .ref (fw_ad E 0 28)), (5, .int x5)] → cells + 4 * n ≤ 603072 → slots + 24 * n ≤ 7182442 → W p l e room_1 s m #[Value.ref b] below meth c H locs cells slots Q (F0 m 28 ls [])) : ∀ (μ : fw_M) (o : Int64) (d : UInt64) (x5 : Int32) (H : Heap) (locs : List Loc) (ls : Array Slot) (cells slots : Nat), f_law_C570 K xs L μ o d x5 = some () → fw_P E o d μ H → va_S (fw_A E) s.heap H locs → lv_has ls 9 [(0, .ref b), (1, .ref (fw_ad E 0 10)), (2, .ref (fw_ad E 0 18)), (3, .ref (fw_ad E 0 27)), (4, .ref (fw_ad E 0 28)), (5, .int x5)] → cells + 4 * (n + 1) ≤ 603072 → slots + 24 * (n + 1) ≤ 7182442 → W p l e room_1 s m #[Value.ref b] below meth c H locs cells slots Q (F0 m 570 ls []) := by
  obtain ⟨hx, hb, hml, hown, hU, hK, hSt, hN2, hE, hst, hX, hbl, hbA, hz⟩ := C0
  intro μ o d x5 H locs ls cells slots h hP hS hl hc1 hc2
  unfold f_law_C570 at h
  refine lv_aload_n hx hb dL_law_570 rfl (lv_at hl 1 rfl) ?_
  refine lv_aload_n hx hb dL_law_571 rfl (lv_at hl 0 rfl) ?_
  refine lv_iload hx hb dL_law_572 (lv_at hl 5 rfl) ?_
  refine lv_iconst (v := (1 : Int32)) hx hb dL_law_574 (by decide) ?_
  refine lv_iadd hx hb dL_law_575 ?_
  obtain ⟨g58, h⟩ := fw_g_e h
  refine va_sld hx hb hX hbl hbA hS (fw_in_e g58) dL_law_576 ?_
  refine lv_aload_n hx hb dL_law_577 rfl (lv_at hl 3 rfl) ?_
  obtain ⟨μ59, o59, d59, r59, hc59, h⟩ := fw_b4_e h
  refine fw_retL (vx_runSW (As := [.ref (fw_ad E 0 10), .int (xs (x5 + (1 : Int32)).toNatClampNeg), .ref (fw_ad E 0 27)]) (rest := []) ⟨hx, hb, hml, hown, hU⟩ (k_L_run l hst hE (xs (x5 + (1 : Int32)).toNatClampNeg) hc59) (vx_cwSW 3 hU (fw_gSW m_587 m_588 m_0 m_589) rfl rfl rfl (by decide +kernel) ⟨(Nat.le_of_ble_eq_true rfl), (Nat.le_of_ble_eq_true rfl)⟩) ⟨fw_blind2, fun U hU9 hW9 => ⟨rfl, fw_pre hK hP hSt hS U hU9 hW9, fw_S2_go hN2 hW9⟩⟩ rfl rfl hl.1 rfl (lv_room (Nat.le_of_ble_eq_true rfl)) dL_law_578 ⟨by show _ ≤ 603072; omega, by show _ ≤ 7182442; omega⟩) hS (fun H locs hP hS => ?_)
  refine lv_istore (lv' := [(6, .int r59), (0, .ref b), (1, .ref (fw_ad E 0 10)), (2, .ref (fw_ad E 0 18)), (3, .ref (fw_ad E 0 27)), (4, .ref (fw_ad E 0 28)), (5, .int x5)]) hx hb dL_law_581 hl (by decide) rfl (fun ls hl => ?_)
  refine lv_aload_n hx hb dL_law_583 rfl (lv_at hl 3 rfl) ?_
  refine lv_aload_n hx hb dL_law_584 rfl (lv_at hl 1 rfl) ?_
  refine lv_iload hx hb dL_law_585 (lv_at hl 6 rfl) ?_
  refine lv_iconst (v := (1 : Int32)) hx hb dL_law_587 (by decide) ?_
  refine lv_iadd hx hb dL_law_588 ?_
  refine va_sld hx hb hX hbl hbA hS (fw_in_e g58) dL_law_589 ?_
  obtain ⟨μ60, r60, hc60, h⟩ := fw_b2_e h
  refine fw_ret (va_runV (As := [.int (xs (x5 + (1 : Int32)).toNatClampNeg)]) (rest := []) ⟨hx, hb, hml, hown, hU⟩ (k_X10_run l hE (xs (x5 + (1 : Int32)).toNatClampNeg) hc60) (cwV 1 hU (fw_gV m_1264 m_1265 m_1266 m_9 m_1267) rfl rfl rfl (by decide +kernel) ⟨(Nat.le_of_ble_eq_true rfl), (Nat.le_of_ble_eq_true rfl)⟩) ⟨fw_blind, fw_recv hK hP (fw_V0 (f := 18) (by decide) (by decide)) rfl rfl, fun U hU9 hW9 => ⟨rfl, fw_pre hK hP hSt hS U hU9 hW9⟩⟩ rfl rfl hl.1 rfl (lv_room (Nat.le_of_ble_eq_true rfl)) dL_law_590 ⟨by show _ ≤ 603072; omega, by show _ ≤ 7182442; omega⟩) hS (fun H locs hP hS => ?_)
  refine lv_istore (lv' := [(7, .int r60), (6, .int r59), (0, .ref b), (1, .ref (fw_ad E 0 10)), (2, .ref (fw_ad E 0 18)), (3, .ref (fw_ad E 0 27)), (4, .ref (fw_ad E 0 28)), (5, .int x5)]) hx hb dL_law_593 hl (by decide) rfl (fun ls hl => ?_)
  refine lv_aload_n hx hb dL_law_595 rfl (lv_at hl 4 rfl) ?_
  obtain ⟨r61, hc61, h⟩ := fw_b1_e h
  refine fw_ret (va_runV (As := []) (rest := []) ⟨hx, hb, hml, hown, hU⟩ (k_X10_thrown l hE hc61) (cwV 0 hU (fw_gV m_1178 m_1179 m_1180 m_9 m_1181) rfl rfl rfl (by decide +kernel) ⟨(Nat.le_of_ble_eq_true rfl), (Nat.le_of_ble_eq_true rfl)⟩) ⟨fw_blind, fw_recv hK hP (fw_V0 (f := 18) (by decide) (by decide)) rfl rfl, fun U hU9 hW9 => ⟨rfl, fw_pre hK hP hSt hS U hU9 hW9⟩⟩ rfl rfl hl.1 rfl (lv_room (Nat.le_of_ble_eq_true rfl)) dL_law_596 ⟨by show _ ≤ 603072; omega, by show _ ≤ 7182442; omega⟩) hS (fun H locs hP hS => ?_)
  refine lv_iload hx hb dL_law_599 (lv_at hl 1 rfl) ?_
  refine lv_icmp_eq (tgt := 606) hx hb dL_law_601 (by decide) (fun c62 => ?_) (fun c62 => ?_)
  · rw [if_pos c62] at h
    refine lv_iload hx hb dL_law_606 (lv_at hl 1 rfl) ?_
    refine lv_if_ne (tgt := 623) hx hb dL_law_608 (by decide) (fun c63 => ?_) (fun c63 => ?_)
    · rw [if_neg c63] at h
      refine lv_goto (tgt := 2765) hx hb dL_law_623 (by decide) ?_
      refine lv_iinc (v := (x5 + (5 : Int32))) (lv' := [(5, .int (x5 + (5 : Int32))), (7, .int r60), (6, .int r59), (0, .ref b), (1, .ref (fw_ad E 0 10)), (2, .ref (fw_ad E 0 18)), (3, .ref (fw_ad E 0 27)), (4, .ref (fw_ad E 0 28))]) hx hb dL_law_2765 hl (k := 7) rfl rfl (by decide) rfl (fun ls hl => ?_)
      refine lv_goto (tgt := 28) hx hb dL_law_2768 (by decide) ?_
      exact ih _ _ _ _ H locs ls _ _ h hP hS (lv_sub hl [3, 4, 5, 6, 7, 0] rfl) (by omega) (by omega)
    · rw [if_pos c63] at h
      refine lv_aload_n hx hb dL_law_611 rfl (lv_at hl 5 rfl) ?_
      refine lv_iconst (v := (0 : Int32)) hx hb dL_law_612 (by decide) ?_
      refine va_lald (D := fw_D E) hx hb hK (fw_at hP (fw_V0 (f := 27) (by decide) (by decide))) 0 6 rfl rfl (fw_in_e (n := 1) (by decide)) dL_law_613 ?_
      refine lv_iload hx hb dL_law_614 (lv_at hl 0 rfl) ?_
      refine lv_i2l (v := r60.toInt64) hx hb dL_law_616 rfl ?_
      refine W.lcmp hx hb dL_law_617 ?_
      refine lv_if_eq (tgt := 623) hx hb dL_law_618 (by decide) (fun c64 => ?_) (fun c64 => ?_)
      · rw [if_pos c64] at h
        refine lv_goto (tgt := 2765) hx hb dL_law_623 (by decide) ?_
        refine lv_iinc (v := (x5 + (5 : Int32))) (lv' := [(5, .int (x5 + (5 : Int32))), (7, .int r60), (6, .int r59), (0, .ref b), (1, .ref (fw_ad E 0 10)), (2, .ref (fw_ad E 0 18)), (3, .ref (fw_ad E 0 27)), (4, .ref (fw_ad E 0 28))]) hx hb dL_law_2765 hl (k := 7) rfl rfl (by decide) rfl (fun ls hl => ?_)
        refine lv_goto (tgt := 28) hx hb dL_law_2768 (by decide) ?_
        exact ih _ _ _ _ H locs ls _ _ h hP hS (lv_sub hl [3, 4, 5, 6, 7, 0] rfl) (by omega) (by omega)
      · rw [if_neg c64] at h
        refine lv_iconst (v := (0 : Int32)) hx hb dL_law_621 (by decide) ?_
        cases h
  · rw [if_neg c62] at h
    refine lv_iconst (v := (0 : Int32)) hx hb dL_law_604 (by decide) ?_
    cases h
set_option maxHeartbeats 4000000 in
set_option maxRecDepth 100000 in
theorem law_C626 {p : Program} {l : Launch} {e : Env} {s : State} {m : MethodId} {below : List Frame} {meth : Method} {c : Code} {b L : Nat} {xs : Nat → Int32} {E : fw_E} {Q : State → Prop} (C0 : lc_At p l s m meth c b L xs E) (n : Nat) (K : fw_M → Int64 → UInt64 → Int32 → Option Unit) (ih : ∀ (μ : fw_M) (o : Int64) (d : UInt64) (x5 : Int32) (H : Heap) (locs : List Loc) (ls : Array Slot) (cells slots : Nat), K μ o d x5 = some () → fw_P E o d μ H → va_S (fw_A E) s.heap H locs → lv_has ls 9 [(0, .ref b), (1, .ref (fw_ad E 0 10)), (2, .ref (fw_ad E 0 18)), (3, .ref (fw_ad E 0 27)), (4, .ref (fw_ad E 0 28)), (5, .int x5)] → cells + 4 * n ≤ 603072 → slots + 24 * n ≤ 7182442 → W p l e room_1 s m #[Value.ref b] below meth c H locs cells slots Q (F0 m 28 ls [])) : ∀ (μ : fw_M) (o : Int64) (d : UInt64) (x5 : Int32) (H : Heap) (locs : List Loc) (ls : Array Slot) (cells slots : Nat), f_law_C626 K xs L μ o d x5 = some () → fw_P E o d μ H → va_S (fw_A E) s.heap H locs → lv_has ls 9 [(0, .ref b), (1, .ref (fw_ad E 0 10)), (2, .ref (fw_ad E 0 18)), (3, .ref (fw_ad E 0 27)), (4, .ref (fw_ad E 0 28)), (5, .int x5)] → cells + 4 * (n + 1) ≤ 603072 → slots + 24 * (n + 1) ≤ 7182442 → W p l e room_1 s m #[Value.ref b] below meth c H locs cells slots Q (F0 m 626 ls []) := by
  obtain ⟨hx, hb, hml, hown, hU, hK, hSt, hN2, hE, hst, hX, hbl, hbA, hz⟩ := C0
  intro μ o d x5 H locs ls cells slots h hP hS hl hc1 hc2
  unfold f_law_C626 at h
  refine lv_aload_n hx hb dL_law_626 rfl (lv_at hl 1 rfl) ?_
  obtain ⟨r65, hc65, h⟩ := fw_b1_e h
  refine fw_ret (va_runV (As := []) (rest := []) ⟨hx, hb, hml, hown, hU⟩ (k_X9_garmentCount l hE hc65) (cwV 0 hU (fw_gV m_221 m_222 m_223 m_1 m_224) rfl rfl rfl (by decide +kernel) ⟨(Nat.le_of_ble_eq_true rfl), (Nat.le_of_ble_eq_true rfl)⟩) ⟨fw_blind, fw_recv hK hP (fw_V0 (f := 10) (by decide) (by decide)) rfl rfl, fun U hU9 hW9 => ⟨rfl, fw_pre hK hP hSt hS U hU9 hW9⟩⟩ rfl rfl hl.1 rfl (lv_room (Nat.le_of_ble_eq_true rfl)) dL_law_627 ⟨by show _ ≤ 603072; omega, by show _ ≤ 7182442; omega⟩) hS (fun H locs hP hS => ?_)
  refine lv_aload_n hx hb dL_law_630 rfl (lv_at hl 2 rfl) ?_
  obtain ⟨μ66, r66, hc66, h⟩ := fw_b2_e h
  refine fw_ret (va_runV (As := []) (rest := [.int r65]) ⟨hx, hb, hml, hown, hU⟩ (k_X10_garmentCount l hE hc66) (cwV 0 hU (fw_gV m_1326 m_1327 m_1328 m_9 m_1329) rfl rfl rfl (by decide +kernel) ⟨(Nat.le_of_ble_eq_true rfl), (Nat.le_of_ble_eq_true rfl)⟩) ⟨fw_blind, fw_recv hK hP (fw_V0 (f := 18) (by decide) (by decide)) rfl rfl, fun U hU9 hW9 => ⟨rfl, fw_pre hK hP hSt hS U hU9 hW9⟩⟩ rfl rfl hl.1 rfl (lv_room (Nat.le_of_ble_eq_true rfl)) dL_law_631 ⟨by show _ ≤ 603072; omega, by show _ ≤ 7182442; omega⟩) hS (fun H locs hP hS => ?_)
  refine lv_icmp_eq (tgt := 2765) hx hb dL_law_634 (by decide) (fun c67 => ?_) (fun c67 => ?_)
  · rw [if_pos c67] at h
    refine lv_iinc (v := (x5 + (5 : Int32))) (lv' := [(5, .int (x5 + (5 : Int32))), (0, .ref b), (1, .ref (fw_ad E 0 10)), (2, .ref (fw_ad E 0 18)), (3, .ref (fw_ad E 0 27)), (4, .ref (fw_ad E 0 28))]) hx hb dL_law_2765 hl (k := 5) rfl rfl (by decide) rfl (fun ls hl => ?_)
    refine lv_goto (tgt := 28) hx hb dL_law_2768 (by decide) ?_
    exact ih _ _ _ _ H locs ls _ _ h hP hS (lv_sub hl [1, 2, 3, 4, 5, 0] rfl) (by omega) (by omega)
  · rw [if_neg c67] at h
    refine lv_iconst (v := (0 : Int32)) hx hb dL_law_637 (by decide) ?_
    cases h
set_option maxHeartbeats 4000000 in
set_option maxRecDepth 100000 in
theorem law_C639 {p : Program} {l : Launch} {e : Env} {s : State} {m : MethodId} {below : List Frame} {meth : Method} {c : Code} {b L : Nat} {xs : Nat → Int32} {E : fw_E} {Q : State → Prop} (C0 : lc_At p l s m meth c b L xs E) (n : Nat) (K : fw_M → Int64 → UInt64 → Int32 → Option Unit) (ih : ∀ (μ : fw_M) (o : Int64) (d : UInt64) (x5 : Int32) (H : Heap) (locs : List Loc) (ls : Array Slot) (cells slots : Nat), K μ o d x5 = some () → fw_P E o d μ H → va_S (fw_A E) s.heap H locs → lv_has ls 9 [(0, .ref b), (1, .ref (fw_ad E 0 10)), (2, .ref (fw_ad E 0 18)), (3, .ref (fw_ad E 0 27)), (4, .ref (fw_ad E 0 28)), (5, .int x5)] → cells + 4 * n ≤ 603072 → slots + 24 * n ≤ 7182442 → W p l e room_1 s m #[Value.ref b] below meth c H locs cells slots Q (F0 m 28 ls [])) : ∀ (μ : fw_M) (o : Int64) (d : UInt64) (x5 : Int32) (H : Heap) (locs : List Loc) (ls : Array Slot) (cells slots : Nat), f_law_C639 K xs L μ o d x5 = some () → fw_P E o d μ H → va_S (fw_A E) s.heap H locs → lv_has ls 9 [(0, .ref b), (1, .ref (fw_ad E 0 10)), (2, .ref (fw_ad E 0 18)), (3, .ref (fw_ad E 0 27)), (4, .ref (fw_ad E 0 28)), (5, .int x5)] → cells + 4 * (n + 1) ≤ 603072 → slots + 24 * (n + 1) ≤ 7182442 → W p l e room_1 s m #[Value.ref b] below meth c H locs cells slots Q (F0 m 639 ls []) := by
  obtain ⟨hx, hb, hml, hown, hU, hK, hSt, hN2, hE, hst, hX, hbl, hbA, hz⟩ := C0
  intro μ o d x5 H locs ls cells slots h hP hS hl hc1 hc2
  unfold f_law_C639 at h
  refine lv_aload_n hx hb dL_law_639 rfl (lv_at hl 1 rfl) ?_
  refine lv_aload_n hx hb dL_law_640 rfl (lv_at hl 0 rfl) ?_
  refine lv_iload hx hb dL_law_641 (lv_at hl 5 rfl) ?_
  refine lv_iconst (v := (1 : Int32)) hx hb dL_law_643 (by decide) ?_
  refine lv_iadd hx hb dL_law_644 ?_
  obtain ⟨g68, h⟩ := fw_g_e h
  refine va_sld hx hb hX hbl hbA hS (fw_in_e g68) dL_law_645 ?_
  refine lv_aload_n hx hb dL_law_646 rfl (lv_at hl 3 rfl) ?_
  obtain ⟨μ69, o69, d69, r69, hc69, h⟩ := fw_b4_e h
  refine fw_retL (vx_runSW (As := [.ref (fw_ad E 0 10), .int (xs (x5 + (1 : Int32)).toNatClampNeg), .ref (fw_ad E 0 27)]) (rest := []) ⟨hx, hb, hml, hown, hU⟩ (k_L_client l hst hE (xs (x5 + (1 : Int32)).toNatClampNeg) hc69) (vx_cwSW 3 hU (fw_gSW m_618 m_619 m_0 m_620) rfl rfl rfl (by decide +kernel) ⟨(Nat.le_of_ble_eq_true rfl), (Nat.le_of_ble_eq_true rfl)⟩) ⟨fw_blind2, fun U hU9 hW9 => ⟨rfl, fw_pre hK hP hSt hS U hU9 hW9, fw_S2_go hN2 hW9⟩⟩ rfl rfl hl.1 rfl (lv_room (Nat.le_of_ble_eq_true rfl)) dL_law_647 ⟨by show _ ≤ 603072; omega, by show _ ≤ 7182442; omega⟩) hS (fun H locs hP hS => ?_)
  refine lv_istore (lv' := [(6, .int r69), (0, .ref b), (1, .ref (fw_ad E 0 10)), (2, .ref (fw_ad E 0 18)), (3, .ref (fw_ad E 0 27)), (4, .ref (fw_ad E 0 28)), (5, .int x5)]) hx hb dL_law_650 hl (by decide) rfl (fun ls hl => ?_)
  refine lv_aload_n hx hb dL_law_652 rfl (lv_at hl 3 rfl) ?_
  refine lv_aload_n hx hb dL_law_653 rfl (lv_at hl 1 rfl) ?_
  refine lv_iload hx hb dL_law_654 (lv_at hl 6 rfl) ?_
  refine lv_iconst (v := (1 : Int32)) hx hb dL_law_656 (by decide) ?_
  refine lv_iadd hx hb dL_law_657 ?_
  refine va_sld hx hb hX hbl hbA hS (fw_in_e g68) dL_law_658 ?_
  obtain ⟨μ70, r70, hc70, h⟩ := fw_b2_e h
  refine fw_ret (va_runV (As := [.int (xs (x5 + (1 : Int32)).toNatClampNeg)]) (rest := []) ⟨hx, hb, hml, hown, hU⟩ (k_X10_client l hE (xs (x5 + (1 : Int32)).toNatClampNeg) hc70) (cwV 1 hU (fw_gV m_1330 m_1331 m_1332 m_9 m_1333) rfl rfl rfl (by decide +kernel) ⟨(Nat.le_of_ble_eq_true rfl), (Nat.le_of_ble_eq_true rfl)⟩) ⟨fw_blind, fw_recv hK hP (fw_V0 (f := 18) (by decide) (by decide)) rfl rfl, fun U hU9 hW9 => ⟨rfl, fw_pre hK hP hSt hS U hU9 hW9⟩⟩ rfl rfl hl.1 rfl (lv_room (Nat.le_of_ble_eq_true rfl)) dL_law_659 ⟨by show _ ≤ 603072; omega, by show _ ≤ 7182442; omega⟩) hS (fun H locs hP hS => ?_)
  refine lv_istore (lv' := [(7, .int r70), (6, .int r69), (0, .ref b), (1, .ref (fw_ad E 0 10)), (2, .ref (fw_ad E 0 18)), (3, .ref (fw_ad E 0 27)), (4, .ref (fw_ad E 0 28)), (5, .int x5)]) hx hb dL_law_662 hl (by decide) rfl (fun ls hl => ?_)
  refine lv_aload_n hx hb dL_law_664 rfl (lv_at hl 4 rfl) ?_
  obtain ⟨r71, hc71, h⟩ := fw_b1_e h
  refine fw_ret (va_runV (As := []) (rest := []) ⟨hx, hb, hml, hown, hU⟩ (k_X10_thrown l hE hc71) (cwV 0 hU (fw_gV m_1178 m_1179 m_1180 m_9 m_1181) rfl rfl rfl (by decide +kernel) ⟨(Nat.le_of_ble_eq_true rfl), (Nat.le_of_ble_eq_true rfl)⟩) ⟨fw_blind, fw_recv hK hP (fw_V0 (f := 18) (by decide) (by decide)) rfl rfl, fun U hU9 hW9 => ⟨rfl, fw_pre hK hP hSt hS U hU9 hW9⟩⟩ rfl rfl hl.1 rfl (lv_room (Nat.le_of_ble_eq_true rfl)) dL_law_665 ⟨by show _ ≤ 603072; omega, by show _ ≤ 7182442; omega⟩) hS (fun H locs hP hS => ?_)
  refine lv_iload hx hb dL_law_668 (lv_at hl 1 rfl) ?_
  refine lv_icmp_eq (tgt := 675) hx hb dL_law_670 (by decide) (fun c72 => ?_) (fun c72 => ?_)
  · rw [if_pos c72] at h
    refine lv_iload hx hb dL_law_675 (lv_at hl 1 rfl) ?_
    refine lv_if_ne (tgt := 692) hx hb dL_law_677 (by decide) (fun c73 => ?_) (fun c73 => ?_)
    · rw [if_neg c73] at h
      refine lv_goto (tgt := 2765) hx hb dL_law_692 (by decide) ?_
      refine lv_iinc (v := (x5 + (5 : Int32))) (lv' := [(5, .int (x5 + (5 : Int32))), (7, .int r70), (6, .int r69), (0, .ref b), (1, .ref (fw_ad E 0 10)), (2, .ref (fw_ad E 0 18)), (3, .ref (fw_ad E 0 27)), (4, .ref (fw_ad E 0 28))]) hx hb dL_law_2765 hl (k := 7) rfl rfl (by decide) rfl (fun ls hl => ?_)
      refine lv_goto (tgt := 28) hx hb dL_law_2768 (by decide) ?_
      exact ih _ _ _ _ H locs ls _ _ h hP hS (lv_sub hl [3, 4, 5, 6, 7, 0] rfl) (by omega) (by omega)
    · rw [if_pos c73] at h
      refine lv_aload_n hx hb dL_law_680 rfl (lv_at hl 5 rfl) ?_
      refine lv_iconst (v := (0 : Int32)) hx hb dL_law_681 (by decide) ?_
      refine va_lald (D := fw_D E) hx hb hK (fw_at hP (fw_V0 (f := 27) (by decide) (by decide))) 0 6 rfl rfl (fw_in_e (n := 1) (by decide)) dL_law_682 ?_
      refine lv_iload hx hb dL_law_683 (lv_at hl 0 rfl) ?_
      refine lv_i2l (v := r70.toInt64) hx hb dL_law_685 rfl ?_
      refine W.lcmp hx hb dL_law_686 ?_
      refine lv_if_eq (tgt := 692) hx hb dL_law_687 (by decide) (fun c74 => ?_) (fun c74 => ?_)
      · rw [if_pos c74] at h
        refine lv_goto (tgt := 2765) hx hb dL_law_692 (by decide) ?_
        refine lv_iinc (v := (x5 + (5 : Int32))) (lv' := [(5, .int (x5 + (5 : Int32))), (7, .int r70), (6, .int r69), (0, .ref b), (1, .ref (fw_ad E 0 10)), (2, .ref (fw_ad E 0 18)), (3, .ref (fw_ad E 0 27)), (4, .ref (fw_ad E 0 28))]) hx hb dL_law_2765 hl (k := 7) rfl rfl (by decide) rfl (fun ls hl => ?_)
        refine lv_goto (tgt := 28) hx hb dL_law_2768 (by decide) ?_
        exact ih _ _ _ _ H locs ls _ _ h hP hS (lv_sub hl [3, 4, 5, 6, 7, 0] rfl) (by omega) (by omega)
      · rw [if_neg c74] at h
        refine lv_iconst (v := (0 : Int32)) hx hb dL_law_690 (by decide) ?_
        cases h
  · rw [if_neg c72] at h
    refine lv_iconst (v := (0 : Int32)) hx hb dL_law_673 (by decide) ?_
    cases h
set_option maxHeartbeats 4000000 in
set_option maxRecDepth 100000 in
theorem law_C695 {p : Program} {l : Launch} {e : Env} {s : State} {m : MethodId} {below : List Frame} {meth : Method} {c : Code} {b L : Nat} {xs : Nat → Int32} {E : fw_E} {Q : State → Prop} (C0 : lc_At p l s m meth c b L xs E) (n : Nat) (K : fw_M → Int64 → UInt64 → Int32 → Option Unit) (ih : ∀ (μ : fw_M) (o : Int64) (d : UInt64) (x5 : Int32) (H : Heap) (locs : List Loc) (ls : Array Slot) (cells slots : Nat), K μ o d x5 = some () → fw_P E o d μ H → va_S (fw_A E) s.heap H locs → lv_has ls 9 [(0, .ref b), (1, .ref (fw_ad E 0 10)), (2, .ref (fw_ad E 0 18)), (3, .ref (fw_ad E 0 27)), (4, .ref (fw_ad E 0 28)), (5, .int x5)] → cells + 4 * n ≤ 603072 → slots + 24 * n ≤ 7182442 → W p l e room_1 s m #[Value.ref b] below meth c H locs cells slots Q (F0 m 28 ls [])) : ∀ (μ : fw_M) (o : Int64) (d : UInt64) (x5 : Int32) (H : Heap) (locs : List Loc) (ls : Array Slot) (cells slots : Nat), f_law_C695 K xs L μ o d x5 = some () → fw_P E o d μ H → va_S (fw_A E) s.heap H locs → lv_has ls 9 [(0, .ref b), (1, .ref (fw_ad E 0 10)), (2, .ref (fw_ad E 0 18)), (3, .ref (fw_ad E 0 27)), (4, .ref (fw_ad E 0 28)), (5, .int x5)] → cells + 4 * (n + 1) ≤ 603072 → slots + 24 * (n + 1) ≤ 7182442 → W p l e room_1 s m #[Value.ref b] below meth c H locs cells slots Q (F0 m 695 ls []) := by
  obtain ⟨hx, hb, hml, hown, hU, hK, hSt, hN2, hE, hst, hX, hbl, hbA, hz⟩ := C0
  intro μ o d x5 H locs ls cells slots h hP hS hl hc1 hc2
  unfold f_law_C695 at h
  refine lv_aload_n hx hb dL_law_695 rfl (lv_at hl 1 rfl) ?_
  refine lv_aload_n hx hb dL_law_696 rfl (lv_at hl 0 rfl) ?_
  refine lv_iload hx hb dL_law_697 (lv_at hl 5 rfl) ?_
  refine lv_iconst (v := (1 : Int32)) hx hb dL_law_699 (by decide) ?_
  refine lv_iadd hx hb dL_law_700 ?_
  obtain ⟨g75, h⟩ := fw_g_e h
  refine va_sld hx hb hX hbl hbA hS (fw_in_e g75) dL_law_701 ?_
  refine lv_aload_n hx hb dL_law_702 rfl (lv_at hl 3 rfl) ?_
  obtain ⟨μ76, o76, d76, r76, hc76, h⟩ := fw_b4_e h
  refine fw_retL (vx_runSW (As := [.ref (fw_ad E 0 10), .int (xs (x5 + (1 : Int32)).toNatClampNeg), .ref (fw_ad E 0 27)]) (rest := []) ⟨hx, hb, hml, hown, hU⟩ (k_L_isSock l hst hE (xs (x5 + (1 : Int32)).toNatClampNeg) hc76) (vx_cwSW 3 hU (fw_gSW m_631 m_632 m_0 m_633) rfl rfl rfl (by decide +kernel) ⟨(Nat.le_of_ble_eq_true rfl), (Nat.le_of_ble_eq_true rfl)⟩) ⟨fw_blind2, fun U hU9 hW9 => ⟨rfl, fw_pre hK hP hSt hS U hU9 hW9, fw_S2_go hN2 hW9⟩⟩ rfl rfl hl.1 rfl (lv_room (Nat.le_of_ble_eq_true rfl)) dL_law_703 ⟨by show _ ≤ 603072; omega, by show _ ≤ 7182442; omega⟩) hS (fun H locs hP hS => ?_)
  refine lv_istore (lv' := [(6, .int r76), (0, .ref b), (1, .ref (fw_ad E 0 10)), (2, .ref (fw_ad E 0 18)), (3, .ref (fw_ad E 0 27)), (4, .ref (fw_ad E 0 28)), (5, .int x5)]) hx hb dL_law_706 hl (by decide) rfl (fun ls hl => ?_)
  refine lv_aload_n hx hb dL_law_708 rfl (lv_at hl 3 rfl) ?_
  refine lv_aload_n hx hb dL_law_709 rfl (lv_at hl 1 rfl) ?_
  refine lv_iload hx hb dL_law_710 (lv_at hl 6 rfl) ?_
  refine lv_iconst (v := (1 : Int32)) hx hb dL_law_712 (by decide) ?_
  refine lv_iadd hx hb dL_law_713 ?_
  refine va_sld hx hb hX hbl hbA hS (fw_in_e g75) dL_law_714 ?_
  obtain ⟨μ77, r77, hc77, h⟩ := fw_b2_e h
  refine fw_ret (va_runV (As := [.int (xs (x5 + (1 : Int32)).toNatClampNeg)]) (rest := []) ⟨hx, hb, hml, hown, hU⟩ (k_X10_isSock l hE (xs (x5 + (1 : Int32)).toNatClampNeg) hc77) (cwV 1 hU (fw_gV m_1338 m_1339 m_1340 m_9 m_1341) rfl rfl rfl (by decide +kernel) ⟨(Nat.le_of_ble_eq_true rfl), (Nat.le_of_ble_eq_true rfl)⟩) ⟨fw_blind, fw_recv hK hP (fw_V0 (f := 18) (by decide) (by decide)) rfl rfl, fun U hU9 hW9 => ⟨rfl, fw_pre hK hP hSt hS U hU9 hW9⟩⟩ rfl rfl hl.1 rfl (lv_room (Nat.le_of_ble_eq_true rfl)) dL_law_715 ⟨by show _ ≤ 603072; omega, by show _ ≤ 7182442; omega⟩) hS (fun H locs hP hS => ?_)
  refine lv_istore (lv' := [(7, .int r77), (6, .int r76), (0, .ref b), (1, .ref (fw_ad E 0 10)), (2, .ref (fw_ad E 0 18)), (3, .ref (fw_ad E 0 27)), (4, .ref (fw_ad E 0 28)), (5, .int x5)]) hx hb dL_law_718 hl (by decide) rfl (fun ls hl => ?_)
  refine lv_aload_n hx hb dL_law_720 rfl (lv_at hl 4 rfl) ?_
  obtain ⟨r78, hc78, h⟩ := fw_b1_e h
  refine fw_ret (va_runV (As := []) (rest := []) ⟨hx, hb, hml, hown, hU⟩ (k_X10_thrown l hE hc78) (cwV 0 hU (fw_gV m_1178 m_1179 m_1180 m_9 m_1181) rfl rfl rfl (by decide +kernel) ⟨(Nat.le_of_ble_eq_true rfl), (Nat.le_of_ble_eq_true rfl)⟩) ⟨fw_blind, fw_recv hK hP (fw_V0 (f := 18) (by decide) (by decide)) rfl rfl, fun U hU9 hW9 => ⟨rfl, fw_pre hK hP hSt hS U hU9 hW9⟩⟩ rfl rfl hl.1 rfl (lv_room (Nat.le_of_ble_eq_true rfl)) dL_law_721 ⟨by show _ ≤ 603072; omega, by show _ ≤ 7182442; omega⟩) hS (fun H locs hP hS => ?_)
  refine lv_iload hx hb dL_law_724 (lv_at hl 1 rfl) ?_
  refine lv_icmp_eq (tgt := 731) hx hb dL_law_726 (by decide) (fun c79 => ?_) (fun c79 => ?_)
  · rw [if_pos c79] at h
    refine lv_iload hx hb dL_law_731 (lv_at hl 1 rfl) ?_
    refine lv_if_ne (tgt := 755) hx hb dL_law_733 (by decide) (fun c80 => ?_) (fun c80 => ?_)
    · rw [if_neg c80] at h
      refine lv_goto (tgt := 2765) hx hb dL_law_755 (by decide) ?_
      refine lv_iinc (v := (x5 + (5 : Int32))) (lv' := [(5, .int (x5 + (5 : Int32))), (7, .int r77), (6, .int r76), (0, .ref b), (1, .ref (fw_ad E 0 10)), (2, .ref (fw_ad E 0 18)), (3, .ref (fw_ad E 0 27)), (4, .ref (fw_ad E 0 28))]) hx hb dL_law_2765 hl (k := 7) rfl rfl (by decide) rfl (fun ls hl => ?_)
      refine lv_goto (tgt := 28) hx hb dL_law_2768 (by decide) ?_
      exact ih _ _ _ _ H locs ls _ _ h hP hS (lv_sub hl [3, 4, 5, 6, 7, 0] rfl) (by omega) (by omega)
    · rw [if_pos c80] at h
      refine lv_aload_n hx hb dL_law_736 rfl (lv_at hl 5 rfl) ?_
      refine lv_iconst (v := (0 : Int32)) hx hb dL_law_737 (by decide) ?_
      refine va_lald (D := fw_D E) hx hb hK (fw_at hP (fw_V0 (f := 27) (by decide) (by decide))) 0 6 rfl rfl (fw_in_e (n := 1) (by decide)) dL_law_738 ?_
      refine lv_iload hx hb dL_law_739 (lv_at hl 0 rfl) ?_
      refine lv_if_eq (tgt := 748) hx hb dL_law_741 (by decide) (fun c81 => ?_) (fun c81 => ?_)
      · rw [if_pos c81] at h
        refine lv_lconst (v := (0 : Int64)) hx hb dL_law_748 (by decide) ?_
        refine W.lcmp hx hb dL_law_749 ?_
        refine lv_if_eq (tgt := 755) hx hb dL_law_750 (by decide) (fun c82 => ?_) (fun c82 => ?_)
        · rw [if_pos c82] at h
          refine lv_goto (tgt := 2765) hx hb dL_law_755 (by decide) ?_
          refine lv_iinc (v := (x5 + (5 : Int32))) (lv' := [(5, .int (x5 + (5 : Int32))), (7, .int r77), (6, .int r76), (0, .ref b), (1, .ref (fw_ad E 0 10)), (2, .ref (fw_ad E 0 18)), (3, .ref (fw_ad E 0 27)), (4, .ref (fw_ad E 0 28))]) hx hb dL_law_2765 hl (k := 7) rfl rfl (by decide) rfl (fun ls hl => ?_)
          refine lv_goto (tgt := 28) hx hb dL_law_2768 (by decide) ?_
          exact ih _ _ _ _ H locs ls _ _ h hP hS (lv_sub hl [3, 4, 5, 6, 7, 0] rfl) (by omega) (by omega)
        · rw [if_neg c82] at h
          refine lv_iconst (v := (0 : Int32)) hx hb dL_law_753 (by decide) ?_
          cases h
      · rw [if_neg c81] at h
        refine lv_lconst (v := (1 : Int64)) hx hb dL_law_744 (by decide) ?_
        refine lv_goto (tgt := 749) hx hb dL_law_745 (by decide) ?_
        refine W.lcmp hx hb dL_law_749 ?_
        refine lv_if_eq (tgt := 755) hx hb dL_law_750 (by decide) (fun c83 => ?_) (fun c83 => ?_)
        · rw [if_pos c83] at h
          refine lv_goto (tgt := 2765) hx hb dL_law_755 (by decide) ?_
          refine lv_iinc (v := (x5 + (5 : Int32))) (lv' := [(5, .int (x5 + (5 : Int32))), (7, .int r77), (6, .int r76), (0, .ref b), (1, .ref (fw_ad E 0 10)), (2, .ref (fw_ad E 0 18)), (3, .ref (fw_ad E 0 27)), (4, .ref (fw_ad E 0 28))]) hx hb dL_law_2765 hl (k := 7) rfl rfl (by decide) rfl (fun ls hl => ?_)
          refine lv_goto (tgt := 28) hx hb dL_law_2768 (by decide) ?_
          exact ih _ _ _ _ H locs ls _ _ h hP hS (lv_sub hl [3, 4, 5, 6, 7, 0] rfl) (by omega) (by omega)
        · rw [if_neg c83] at h
          refine lv_iconst (v := (0 : Int32)) hx hb dL_law_753 (by decide) ?_
          cases h
  · rw [if_neg c79] at h
    refine lv_iconst (v := (0 : Int32)) hx hb dL_law_729 (by decide) ?_
    cases h
set_option maxHeartbeats 4000000 in
set_option maxRecDepth 100000 in
theorem law_C758 {p : Program} {l : Launch} {e : Env} {s : State} {m : MethodId} {below : List Frame} {meth : Method} {c : Code} {b L : Nat} {xs : Nat → Int32} {E : fw_E} {Q : State → Prop} (C0 : lc_At p l s m meth c b L xs E) (n : Nat) (K : fw_M → Int64 → UInt64 → Int32 → Option Unit) (ih : ∀ (μ : fw_M) (o : Int64) (d : UInt64) (x5 : Int32) (H : Heap) (locs : List Loc) (ls : Array Slot) (cells slots : Nat), K μ o d x5 = some () → fw_P E o d μ H → va_S (fw_A E) s.heap H locs → lv_has ls 9 [(0, .ref b), (1, .ref (fw_ad E 0 10)), (2, .ref (fw_ad E 0 18)), (3, .ref (fw_ad E 0 27)), (4, .ref (fw_ad E 0 28)), (5, .int x5)] → cells + 4 * n ≤ 603072 → slots + 24 * n ≤ 7182442 → W p l e room_1 s m #[Value.ref b] below meth c H locs cells slots Q (F0 m 28 ls [])) : ∀ (μ : fw_M) (o : Int64) (d : UInt64) (x5 : Int32) (H : Heap) (locs : List Loc) (ls : Array Slot) (cells slots : Nat), f_law_C758 K xs L μ o d x5 = some () → fw_P E o d μ H → va_S (fw_A E) s.heap H locs → lv_has ls 9 [(0, .ref b), (1, .ref (fw_ad E 0 10)), (2, .ref (fw_ad E 0 18)), (3, .ref (fw_ad E 0 27)), (4, .ref (fw_ad E 0 28)), (5, .int x5)] → cells + 4 * (n + 1) ≤ 603072 → slots + 24 * (n + 1) ≤ 7182442 → W p l e room_1 s m #[Value.ref b] below meth c H locs cells slots Q (F0 m 758 ls []) := by
  obtain ⟨hx, hb, hml, hown, hU, hK, hSt, hN2, hE, hst, hX, hbl, hbA, hz⟩ := C0
  intro μ o d x5 H locs ls cells slots h hP hS hl hc1 hc2
  unfold f_law_C758 at h
  refine lv_aload_n hx hb dL_law_758 rfl (lv_at hl 1 rfl) ?_
  refine lv_aload_n hx hb dL_law_759 rfl (lv_at hl 0 rfl) ?_
  refine lv_iload hx hb dL_law_760 (lv_at hl 5 rfl) ?_
  refine lv_iconst (v := (1 : Int32)) hx hb dL_law_762 (by decide) ?_
  refine lv_iadd hx hb dL_law_763 ?_
  obtain ⟨g84, h⟩ := fw_g_e h
  refine va_sld hx hb hX hbl hbA hS (fw_in_e g84) dL_law_764 ?_
  refine lv_aload_n hx hb dL_law_765 rfl (lv_at hl 3 rfl) ?_
  obtain ⟨μ85, o85, d85, r85, hc85, h⟩ := fw_b4_e h
  refine fw_retL (vx_runSW (As := [.ref (fw_ad E 0 10), .int (xs (x5 + (1 : Int32)).toNatClampNeg), .ref (fw_ad E 0 27)]) (rest := []) ⟨hx, hb, hml, hown, hU⟩ (k_L_colour l hst hE (xs (x5 + (1 : Int32)).toNatClampNeg) hc85) (vx_cwSW 3 hU (fw_gSW m_638 m_639 m_0 m_640) rfl rfl rfl (by decide +kernel) ⟨(Nat.le_of_ble_eq_true rfl), (Nat.le_of_ble_eq_true rfl)⟩) ⟨fw_blind2, fun U hU9 hW9 => ⟨rfl, fw_pre hK hP hSt hS U hU9 hW9, fw_S2_go hN2 hW9⟩⟩ rfl rfl hl.1 rfl (lv_room (Nat.le_of_ble_eq_true rfl)) dL_law_766 ⟨by show _ ≤ 603072; omega, by show _ ≤ 7182442; omega⟩) hS (fun H locs hP hS => ?_)
  refine lv_istore (lv' := [(6, .int r85), (0, .ref b), (1, .ref (fw_ad E 0 10)), (2, .ref (fw_ad E 0 18)), (3, .ref (fw_ad E 0 27)), (4, .ref (fw_ad E 0 28)), (5, .int x5)]) hx hb dL_law_769 hl (by decide) rfl (fun ls hl => ?_)
  refine lv_aload_n hx hb dL_law_771 rfl (lv_at hl 3 rfl) ?_
  refine lv_aload_n hx hb dL_law_772 rfl (lv_at hl 1 rfl) ?_
  refine lv_iload hx hb dL_law_773 (lv_at hl 6 rfl) ?_
  refine lv_iconst (v := (1 : Int32)) hx hb dL_law_775 (by decide) ?_
  refine lv_iadd hx hb dL_law_776 ?_
  refine va_sld hx hb hX hbl hbA hS (fw_in_e g84) dL_law_777 ?_
  obtain ⟨μ86, r86, hc86, h⟩ := fw_b2_e h
  refine fw_ret (va_runV (As := [.int (xs (x5 + (1 : Int32)).toNatClampNeg)]) (rest := []) ⟨hx, hb, hml, hown, hU⟩ (k_X10_colour l hE (xs (x5 + (1 : Int32)).toNatClampNeg) hc86) (cwV 1 hU (fw_gV m_1342 m_1343 m_1344 m_9 m_1345) rfl rfl rfl (by decide +kernel) ⟨(Nat.le_of_ble_eq_true rfl), (Nat.le_of_ble_eq_true rfl)⟩) ⟨fw_blind, fw_recv hK hP (fw_V0 (f := 18) (by decide) (by decide)) rfl rfl, fun U hU9 hW9 => ⟨rfl, fw_pre hK hP hSt hS U hU9 hW9⟩⟩ rfl rfl hl.1 rfl (lv_room (Nat.le_of_ble_eq_true rfl)) dL_law_778 ⟨by show _ ≤ 603072; omega, by show _ ≤ 7182442; omega⟩) hS (fun H locs hP hS => ?_)
  refine lv_istore (lv' := [(7, .int r86), (6, .int r85), (0, .ref b), (1, .ref (fw_ad E 0 10)), (2, .ref (fw_ad E 0 18)), (3, .ref (fw_ad E 0 27)), (4, .ref (fw_ad E 0 28)), (5, .int x5)]) hx hb dL_law_781 hl (by decide) rfl (fun ls hl => ?_)
  refine lv_aload_n hx hb dL_law_783 rfl (lv_at hl 4 rfl) ?_
  obtain ⟨r87, hc87, h⟩ := fw_b1_e h
  refine fw_ret (va_runV (As := []) (rest := []) ⟨hx, hb, hml, hown, hU⟩ (k_X10_thrown l hE hc87) (cwV 0 hU (fw_gV m_1178 m_1179 m_1180 m_9 m_1181) rfl rfl rfl (by decide +kernel) ⟨(Nat.le_of_ble_eq_true rfl), (Nat.le_of_ble_eq_true rfl)⟩) ⟨fw_blind, fw_recv hK hP (fw_V0 (f := 18) (by decide) (by decide)) rfl rfl, fun U hU9 hW9 => ⟨rfl, fw_pre hK hP hSt hS U hU9 hW9⟩⟩ rfl rfl hl.1 rfl (lv_room (Nat.le_of_ble_eq_true rfl)) dL_law_784 ⟨by show _ ≤ 603072; omega, by show _ ≤ 7182442; omega⟩) hS (fun H locs hP hS => ?_)
  refine lv_iload hx hb dL_law_787 (lv_at hl 1 rfl) ?_
  refine lv_icmp_eq (tgt := 794) hx hb dL_law_789 (by decide) (fun c88 => ?_) (fun c88 => ?_)
  · rw [if_pos c88] at h
    refine lv_iload hx hb dL_law_794 (lv_at hl 1 rfl) ?_
    refine lv_if_ne (tgt := 811) hx hb dL_law_796 (by decide) (fun c89 => ?_) (fun c89 => ?_)
    · rw [if_neg c89] at h
      refine lv_goto (tgt := 2765) hx hb dL_law_811 (by decide) ?_
      refine lv_iinc (v := (x5 + (5 : Int32))) (lv' := [(5, .int (x5 + (5 : Int32))), (7, .int r86), (6, .int r85), (0, .ref b), (1, .ref (fw_ad E 0 10)), (2, .ref (fw_ad E 0 18)), (3, .ref (fw_ad E 0 27)), (4, .ref (fw_ad E 0 28))]) hx hb dL_law_2765 hl (k := 7) rfl rfl (by decide) rfl (fun ls hl => ?_)
      refine lv_goto (tgt := 28) hx hb dL_law_2768 (by decide) ?_
      exact ih _ _ _ _ H locs ls _ _ h hP hS (lv_sub hl [3, 4, 5, 6, 7, 0] rfl) (by omega) (by omega)
    · rw [if_pos c89] at h
      refine lv_aload_n hx hb dL_law_799 rfl (lv_at hl 5 rfl) ?_
      refine lv_iconst (v := (0 : Int32)) hx hb dL_law_800 (by decide) ?_
      refine va_lald (D := fw_D E) hx hb hK (fw_at hP (fw_V0 (f := 27) (by decide) (by decide))) 0 6 rfl rfl (fw_in_e (n := 1) (by decide)) dL_law_801 ?_
      refine lv_iload hx hb dL_law_802 (lv_at hl 0 rfl) ?_
      refine lv_i2l (v := r86.toInt64) hx hb dL_law_804 rfl ?_
      refine W.lcmp hx hb dL_law_805 ?_
      refine lv_if_eq (tgt := 811) hx hb dL_law_806 (by decide) (fun c90 => ?_) (fun c90 => ?_)
      · rw [if_pos c90] at h
        refine lv_goto (tgt := 2765) hx hb dL_law_811 (by decide) ?_
        refine lv_iinc (v := (x5 + (5 : Int32))) (lv' := [(5, .int (x5 + (5 : Int32))), (7, .int r86), (6, .int r85), (0, .ref b), (1, .ref (fw_ad E 0 10)), (2, .ref (fw_ad E 0 18)), (3, .ref (fw_ad E 0 27)), (4, .ref (fw_ad E 0 28))]) hx hb dL_law_2765 hl (k := 7) rfl rfl (by decide) rfl (fun ls hl => ?_)
        refine lv_goto (tgt := 28) hx hb dL_law_2768 (by decide) ?_
        exact ih _ _ _ _ H locs ls _ _ h hP hS (lv_sub hl [3, 4, 5, 6, 7, 0] rfl) (by omega) (by omega)
      · rw [if_neg c90] at h
        refine lv_iconst (v := (0 : Int32)) hx hb dL_law_809 (by decide) ?_
        cases h
  · rw [if_neg c88] at h
    refine lv_iconst (v := (0 : Int32)) hx hb dL_law_792 (by decide) ?_
    cases h
set_option maxHeartbeats 4000000 in
set_option maxRecDepth 100000 in
theorem law_C814 {p : Program} {l : Launch} {e : Env} {s : State} {m : MethodId} {below : List Frame} {meth : Method} {c : Code} {b L : Nat} {xs : Nat → Int32} {E : fw_E} {Q : State → Prop} (C0 : lc_At p l s m meth c b L xs E) (n : Nat) (K : fw_M → Int64 → UInt64 → Int32 → Option Unit) (ih : ∀ (μ : fw_M) (o : Int64) (d : UInt64) (x5 : Int32) (H : Heap) (locs : List Loc) (ls : Array Slot) (cells slots : Nat), K μ o d x5 = some () → fw_P E o d μ H → va_S (fw_A E) s.heap H locs → lv_has ls 9 [(0, .ref b), (1, .ref (fw_ad E 0 10)), (2, .ref (fw_ad E 0 18)), (3, .ref (fw_ad E 0 27)), (4, .ref (fw_ad E 0 28)), (5, .int x5)] → cells + 4 * n ≤ 603072 → slots + 24 * n ≤ 7182442 → W p l e room_1 s m #[Value.ref b] below meth c H locs cells slots Q (F0 m 28 ls [])) : ∀ (μ : fw_M) (o : Int64) (d : UInt64) (x5 : Int32) (H : Heap) (locs : List Loc) (ls : Array Slot) (cells slots : Nat), f_law_C814 K xs L μ o d x5 = some () → fw_P E o d μ H → va_S (fw_A E) s.heap H locs → lv_has ls 9 [(0, .ref b), (1, .ref (fw_ad E 0 10)), (2, .ref (fw_ad E 0 18)), (3, .ref (fw_ad E 0 27)), (4, .ref (fw_ad E 0 28)), (5, .int x5)] → cells + 4 * (n + 1) ≤ 603072 → slots + 24 * (n + 1) ≤ 7182442 → W p l e room_1 s m #[Value.ref b] below meth c H locs cells slots Q (F0 m 814 ls []) := by
  obtain ⟨hx, hb, hml, hown, hU, hK, hSt, hN2, hE, hst, hX, hbl, hbA, hz⟩ := C0
  intro μ o d x5 H locs ls cells slots h hP hS hl hc1 hc2
  unfold f_law_C814 at h
  refine lv_aload_n hx hb dL_law_814 rfl (lv_at hl 1 rfl) ?_
  refine lv_aload_n hx hb dL_law_815 rfl (lv_at hl 0 rfl) ?_
  refine lv_iload hx hb dL_law_816 (lv_at hl 5 rfl) ?_
  refine lv_iconst (v := (1 : Int32)) hx hb dL_law_818 (by decide) ?_
  refine lv_iadd hx hb dL_law_819 ?_
  obtain ⟨g91, h⟩ := fw_g_e h
  refine va_sld hx hb hX hbl hbA hS (fw_in_e g91) dL_law_820 ?_
  refine lv_aload_n hx hb dL_law_821 rfl (lv_at hl 3 rfl) ?_
  obtain ⟨μ92, o92, d92, r92, hc92, h⟩ := fw_b4_e h
  refine fw_retL (vx_runSW (As := [.ref (fw_ad E 0 10), .int (xs (x5 + (1 : Int32)).toNatClampNeg), .ref (fw_ad E 0 27)]) (rest := []) ⟨hx, hb, hml, hown, hU⟩ (k_L_stains l hst hE (xs (x5 + (1 : Int32)).toNatClampNeg) hc92) (vx_cwSW 3 hU (fw_gSW m_645 m_646 m_0 m_647) rfl rfl rfl (by decide +kernel) ⟨(Nat.le_of_ble_eq_true rfl), (Nat.le_of_ble_eq_true rfl)⟩) ⟨fw_blind2, fun U hU9 hW9 => ⟨rfl, fw_pre hK hP hSt hS U hU9 hW9, fw_S2_go hN2 hW9⟩⟩ rfl rfl hl.1 rfl (lv_room (Nat.le_of_ble_eq_true rfl)) dL_law_822 ⟨by show _ ≤ 603072; omega, by show _ ≤ 7182442; omega⟩) hS (fun H locs hP hS => ?_)
  refine lv_istore (lv' := [(6, .int r92), (0, .ref b), (1, .ref (fw_ad E 0 10)), (2, .ref (fw_ad E 0 18)), (3, .ref (fw_ad E 0 27)), (4, .ref (fw_ad E 0 28)), (5, .int x5)]) hx hb dL_law_825 hl (by decide) rfl (fun ls hl => ?_)
  refine lv_aload_n hx hb dL_law_827 rfl (lv_at hl 3 rfl) ?_
  refine lv_aload_n hx hb dL_law_828 rfl (lv_at hl 1 rfl) ?_
  refine lv_iload hx hb dL_law_829 (lv_at hl 6 rfl) ?_
  refine lv_iconst (v := (1 : Int32)) hx hb dL_law_831 (by decide) ?_
  refine lv_iadd hx hb dL_law_832 ?_
  refine va_sld hx hb hX hbl hbA hS (fw_in_e g91) dL_law_833 ?_
  obtain ⟨μ93, r93, hc93, h⟩ := fw_b2_e h
  refine fw_ret (va_runV (As := [.int (xs (x5 + (1 : Int32)).toNatClampNeg)]) (rest := []) ⟨hx, hb, hml, hown, hU⟩ (k_X10_stains l hE (xs (x5 + (1 : Int32)).toNatClampNeg) hc93) (cwV 1 hU (fw_gV m_1346 m_1347 m_1348 m_9 m_1349) rfl rfl rfl (by decide +kernel) ⟨(Nat.le_of_ble_eq_true rfl), (Nat.le_of_ble_eq_true rfl)⟩) ⟨fw_blind, fw_recv hK hP (fw_V0 (f := 18) (by decide) (by decide)) rfl rfl, fun U hU9 hW9 => ⟨rfl, fw_pre hK hP hSt hS U hU9 hW9⟩⟩ rfl rfl hl.1 rfl (lv_room (Nat.le_of_ble_eq_true rfl)) dL_law_834 ⟨by show _ ≤ 603072; omega, by show _ ≤ 7182442; omega⟩) hS (fun H locs hP hS => ?_)
  refine lv_istore (lv' := [(7, .int r93), (6, .int r92), (0, .ref b), (1, .ref (fw_ad E 0 10)), (2, .ref (fw_ad E 0 18)), (3, .ref (fw_ad E 0 27)), (4, .ref (fw_ad E 0 28)), (5, .int x5)]) hx hb dL_law_837 hl (by decide) rfl (fun ls hl => ?_)
  refine lv_aload_n hx hb dL_law_839 rfl (lv_at hl 4 rfl) ?_
  obtain ⟨r94, hc94, h⟩ := fw_b1_e h
  refine fw_ret (va_runV (As := []) (rest := []) ⟨hx, hb, hml, hown, hU⟩ (k_X10_thrown l hE hc94) (cwV 0 hU (fw_gV m_1178 m_1179 m_1180 m_9 m_1181) rfl rfl rfl (by decide +kernel) ⟨(Nat.le_of_ble_eq_true rfl), (Nat.le_of_ble_eq_true rfl)⟩) ⟨fw_blind, fw_recv hK hP (fw_V0 (f := 18) (by decide) (by decide)) rfl rfl, fun U hU9 hW9 => ⟨rfl, fw_pre hK hP hSt hS U hU9 hW9⟩⟩ rfl rfl hl.1 rfl (lv_room (Nat.le_of_ble_eq_true rfl)) dL_law_840 ⟨by show _ ≤ 603072; omega, by show _ ≤ 7182442; omega⟩) hS (fun H locs hP hS => ?_)
  refine lv_iload hx hb dL_law_843 (lv_at hl 1 rfl) ?_
  refine lv_icmp_eq (tgt := 850) hx hb dL_law_845 (by decide) (fun c95 => ?_) (fun c95 => ?_)
  · rw [if_pos c95] at h
    refine lv_iload hx hb dL_law_850 (lv_at hl 1 rfl) ?_
    refine lv_if_ne (tgt := 867) hx hb dL_law_852 (by decide) (fun c96 => ?_) (fun c96 => ?_)
    · rw [if_neg c96] at h
      refine lv_goto (tgt := 2765) hx hb dL_law_867 (by decide) ?_
      refine lv_iinc (v := (x5 + (5 : Int32))) (lv' := [(5, .int (x5 + (5 : Int32))), (7, .int r93), (6, .int r92), (0, .ref b), (1, .ref (fw_ad E 0 10)), (2, .ref (fw_ad E 0 18)), (3, .ref (fw_ad E 0 27)), (4, .ref (fw_ad E 0 28))]) hx hb dL_law_2765 hl (k := 7) rfl rfl (by decide) rfl (fun ls hl => ?_)
      refine lv_goto (tgt := 28) hx hb dL_law_2768 (by decide) ?_
      exact ih _ _ _ _ H locs ls _ _ h hP hS (lv_sub hl [3, 4, 5, 6, 7, 0] rfl) (by omega) (by omega)
    · rw [if_pos c96] at h
      refine lv_aload_n hx hb dL_law_855 rfl (lv_at hl 5 rfl) ?_
      refine lv_iconst (v := (0 : Int32)) hx hb dL_law_856 (by decide) ?_
      refine va_lald (D := fw_D E) hx hb hK (fw_at hP (fw_V0 (f := 27) (by decide) (by decide))) 0 6 rfl rfl (fw_in_e (n := 1) (by decide)) dL_law_857 ?_
      refine lv_iload hx hb dL_law_858 (lv_at hl 0 rfl) ?_
      refine lv_i2l (v := r93.toInt64) hx hb dL_law_860 rfl ?_
      refine W.lcmp hx hb dL_law_861 ?_
      refine lv_if_eq (tgt := 867) hx hb dL_law_862 (by decide) (fun c97 => ?_) (fun c97 => ?_)
      · rw [if_pos c97] at h
        refine lv_goto (tgt := 2765) hx hb dL_law_867 (by decide) ?_
        refine lv_iinc (v := (x5 + (5 : Int32))) (lv' := [(5, .int (x5 + (5 : Int32))), (7, .int r93), (6, .int r92), (0, .ref b), (1, .ref (fw_ad E 0 10)), (2, .ref (fw_ad E 0 18)), (3, .ref (fw_ad E 0 27)), (4, .ref (fw_ad E 0 28))]) hx hb dL_law_2765 hl (k := 7) rfl rfl (by decide) rfl (fun ls hl => ?_)
        refine lv_goto (tgt := 28) hx hb dL_law_2768 (by decide) ?_
        exact ih _ _ _ _ H locs ls _ _ h hP hS (lv_sub hl [3, 4, 5, 6, 7, 0] rfl) (by omega) (by omega)
      · rw [if_neg c97] at h
        refine lv_iconst (v := (0 : Int32)) hx hb dL_law_865 (by decide) ?_
        cases h
  · rw [if_neg c95] at h
    refine lv_iconst (v := (0 : Int32)) hx hb dL_law_848 (by decide) ?_
    cases h
set_option maxHeartbeats 4000000 in
set_option maxRecDepth 100000 in
theorem law_C870 {p : Program} {l : Launch} {e : Env} {s : State} {m : MethodId} {below : List Frame} {meth : Method} {c : Code} {b L : Nat} {xs : Nat → Int32} {E : fw_E} {Q : State → Prop} (C0 : lc_At p l s m meth c b L xs E) (n : Nat) (K : fw_M → Int64 → UInt64 → Int32 → Option Unit) (ih : ∀ (μ : fw_M) (o : Int64) (d : UInt64) (x5 : Int32) (H : Heap) (locs : List Loc) (ls : Array Slot) (cells slots : Nat), K μ o d x5 = some () → fw_P E o d μ H → va_S (fw_A E) s.heap H locs → lv_has ls 9 [(0, .ref b), (1, .ref (fw_ad E 0 10)), (2, .ref (fw_ad E 0 18)), (3, .ref (fw_ad E 0 27)), (4, .ref (fw_ad E 0 28)), (5, .int x5)] → cells + 4 * n ≤ 603072 → slots + 24 * n ≤ 7182442 → W p l e room_1 s m #[Value.ref b] below meth c H locs cells slots Q (F0 m 28 ls [])) : ∀ (μ : fw_M) (o : Int64) (d : UInt64) (x5 : Int32) (H : Heap) (locs : List Loc) (ls : Array Slot) (cells slots : Nat), f_law_C870 K xs L μ o d x5 = some () → fw_P E o d μ H → va_S (fw_A E) s.heap H locs → lv_has ls 9 [(0, .ref b), (1, .ref (fw_ad E 0 10)), (2, .ref (fw_ad E 0 18)), (3, .ref (fw_ad E 0 27)), (4, .ref (fw_ad E 0 28)), (5, .int x5)] → cells + 4 * (n + 1) ≤ 603072 → slots + 24 * (n + 1) ≤ 7182442 → W p l e room_1 s m #[Value.ref b] below meth c H locs cells slots Q (F0 m 870 ls []) := by
  obtain ⟨hx, hb, hml, hown, hU, hK, hSt, hN2, hE, hst, hX, hbl, hbA, hz⟩ := C0
  intro μ o d x5 H locs ls cells slots h hP hS hl hc1 hc2
  unfold f_law_C870 at h
  refine lv_aload_n hx hb dL_law_870 rfl (lv_at hl 1 rfl) ?_
  refine lv_aload_n hx hb dL_law_871 rfl (lv_at hl 0 rfl) ?_
  refine lv_iload hx hb dL_law_872 (lv_at hl 5 rfl) ?_
  refine lv_iconst (v := (1 : Int32)) hx hb dL_law_874 (by decide) ?_
  refine lv_iadd hx hb dL_law_875 ?_
  obtain ⟨g98, h⟩ := fw_g_e h
  refine va_sld hx hb hX hbl hbA hS (fw_in_e g98) dL_law_876 ?_
  refine lv_aload_n hx hb dL_law_877 rfl (lv_at hl 3 rfl) ?_
  obtain ⟨μ99, o99, d99, r99, hc99, h⟩ := fw_b4_e h
  refine fw_retL (vx_runSW (As := [.ref (fw_ad E 0 10), .int (xs (x5 + (1 : Int32)).toNatClampNeg), .ref (fw_ad E 0 27)]) (rest := []) ⟨hx, hb, hml, hown, hU⟩ (k_L_stainCount l hst hE (xs (x5 + (1 : Int32)).toNatClampNeg) hc99) (vx_cwSW 3 hU (fw_gSW m_652 m_653 m_0 m_654) rfl rfl rfl (by decide +kernel) ⟨(Nat.le_of_ble_eq_true rfl), (Nat.le_of_ble_eq_true rfl)⟩) ⟨fw_blind2, fun U hU9 hW9 => ⟨rfl, fw_pre hK hP hSt hS U hU9 hW9, fw_S2_go hN2 hW9⟩⟩ rfl rfl hl.1 rfl (lv_room (Nat.le_of_ble_eq_true rfl)) dL_law_878 ⟨by show _ ≤ 603072; omega, by show _ ≤ 7182442; omega⟩) hS (fun H locs hP hS => ?_)
  refine lv_istore (lv' := [(6, .int r99), (0, .ref b), (1, .ref (fw_ad E 0 10)), (2, .ref (fw_ad E 0 18)), (3, .ref (fw_ad E 0 27)), (4, .ref (fw_ad E 0 28)), (5, .int x5)]) hx hb dL_law_881 hl (by decide) rfl (fun ls hl => ?_)
  refine lv_aload_n hx hb dL_law_883 rfl (lv_at hl 3 rfl) ?_
  refine lv_aload_n hx hb dL_law_884 rfl (lv_at hl 1 rfl) ?_
  refine lv_iload hx hb dL_law_885 (lv_at hl 6 rfl) ?_
  refine lv_iconst (v := (1 : Int32)) hx hb dL_law_887 (by decide) ?_
  refine lv_iadd hx hb dL_law_888 ?_
  refine va_sld hx hb hX hbl hbA hS (fw_in_e g98) dL_law_889 ?_
  obtain ⟨μ100, r100, hc100, h⟩ := fw_b2_e h
  refine fw_ret (va_runV (As := [.int (xs (x5 + (1 : Int32)).toNatClampNeg)]) (rest := []) ⟨hx, hb, hml, hown, hU⟩ (k_X10_stainCount l hE (xs (x5 + (1 : Int32)).toNatClampNeg) hc100) (cwV 1 hU (fw_gV m_1350 m_1351 m_1352 m_9 m_1353) rfl rfl rfl (by decide +kernel) ⟨(Nat.le_of_ble_eq_true rfl), (Nat.le_of_ble_eq_true rfl)⟩) ⟨fw_blind, fw_recv hK hP (fw_V0 (f := 18) (by decide) (by decide)) rfl rfl, fun U hU9 hW9 => ⟨rfl, fw_pre hK hP hSt hS U hU9 hW9⟩⟩ rfl rfl hl.1 rfl (lv_room (Nat.le_of_ble_eq_true rfl)) dL_law_890 ⟨by show _ ≤ 603072; omega, by show _ ≤ 7182442; omega⟩) hS (fun H locs hP hS => ?_)
  refine lv_istore (lv' := [(7, .int r100), (6, .int r99), (0, .ref b), (1, .ref (fw_ad E 0 10)), (2, .ref (fw_ad E 0 18)), (3, .ref (fw_ad E 0 27)), (4, .ref (fw_ad E 0 28)), (5, .int x5)]) hx hb dL_law_893 hl (by decide) rfl (fun ls hl => ?_)
  refine lv_aload_n hx hb dL_law_895 rfl (lv_at hl 4 rfl) ?_
  obtain ⟨r101, hc101, h⟩ := fw_b1_e h
  refine fw_ret (va_runV (As := []) (rest := []) ⟨hx, hb, hml, hown, hU⟩ (k_X10_thrown l hE hc101) (cwV 0 hU (fw_gV m_1178 m_1179 m_1180 m_9 m_1181) rfl rfl rfl (by decide +kernel) ⟨(Nat.le_of_ble_eq_true rfl), (Nat.le_of_ble_eq_true rfl)⟩) ⟨fw_blind, fw_recv hK hP (fw_V0 (f := 18) (by decide) (by decide)) rfl rfl, fun U hU9 hW9 => ⟨rfl, fw_pre hK hP hSt hS U hU9 hW9⟩⟩ rfl rfl hl.1 rfl (lv_room (Nat.le_of_ble_eq_true rfl)) dL_law_896 ⟨by show _ ≤ 603072; omega, by show _ ≤ 7182442; omega⟩) hS (fun H locs hP hS => ?_)
  refine lv_iload hx hb dL_law_899 (lv_at hl 1 rfl) ?_
  refine lv_icmp_eq (tgt := 906) hx hb dL_law_901 (by decide) (fun c102 => ?_) (fun c102 => ?_)
  · rw [if_pos c102] at h
    refine lv_iload hx hb dL_law_906 (lv_at hl 1 rfl) ?_
    refine lv_if_ne (tgt := 923) hx hb dL_law_908 (by decide) (fun c103 => ?_) (fun c103 => ?_)
    · rw [if_neg c103] at h
      refine lv_goto (tgt := 2765) hx hb dL_law_923 (by decide) ?_
      refine lv_iinc (v := (x5 + (5 : Int32))) (lv' := [(5, .int (x5 + (5 : Int32))), (7, .int r100), (6, .int r99), (0, .ref b), (1, .ref (fw_ad E 0 10)), (2, .ref (fw_ad E 0 18)), (3, .ref (fw_ad E 0 27)), (4, .ref (fw_ad E 0 28))]) hx hb dL_law_2765 hl (k := 7) rfl rfl (by decide) rfl (fun ls hl => ?_)
      refine lv_goto (tgt := 28) hx hb dL_law_2768 (by decide) ?_
      exact ih _ _ _ _ H locs ls _ _ h hP hS (lv_sub hl [3, 4, 5, 6, 7, 0] rfl) (by omega) (by omega)
    · rw [if_pos c103] at h
      refine lv_aload_n hx hb dL_law_911 rfl (lv_at hl 5 rfl) ?_
      refine lv_iconst (v := (0 : Int32)) hx hb dL_law_912 (by decide) ?_
      refine va_lald (D := fw_D E) hx hb hK (fw_at hP (fw_V0 (f := 27) (by decide) (by decide))) 0 6 rfl rfl (fw_in_e (n := 1) (by decide)) dL_law_913 ?_
      refine lv_iload hx hb dL_law_914 (lv_at hl 0 rfl) ?_
      refine lv_i2l (v := r100.toInt64) hx hb dL_law_916 rfl ?_
      refine W.lcmp hx hb dL_law_917 ?_
      refine lv_if_eq (tgt := 923) hx hb dL_law_918 (by decide) (fun c104 => ?_) (fun c104 => ?_)
      · rw [if_pos c104] at h
        refine lv_goto (tgt := 2765) hx hb dL_law_923 (by decide) ?_
        refine lv_iinc (v := (x5 + (5 : Int32))) (lv' := [(5, .int (x5 + (5 : Int32))), (7, .int r100), (6, .int r99), (0, .ref b), (1, .ref (fw_ad E 0 10)), (2, .ref (fw_ad E 0 18)), (3, .ref (fw_ad E 0 27)), (4, .ref (fw_ad E 0 28))]) hx hb dL_law_2765 hl (k := 7) rfl rfl (by decide) rfl (fun ls hl => ?_)
        refine lv_goto (tgt := 28) hx hb dL_law_2768 (by decide) ?_
        exact ih _ _ _ _ H locs ls _ _ h hP hS (lv_sub hl [3, 4, 5, 6, 7, 0] rfl) (by omega) (by omega)
      · rw [if_neg c104] at h
        refine lv_iconst (v := (0 : Int32)) hx hb dL_law_921 (by decide) ?_
        cases h
  · rw [if_neg c102] at h
    refine lv_iconst (v := (0 : Int32)) hx hb dL_law_904 (by decide) ?_
    cases h
set_option maxHeartbeats 4000000 in
set_option maxRecDepth 100000 in
theorem law_C926 {p : Program} {l : Launch} {e : Env} {s : State} {m : MethodId} {below : List Frame} {meth : Method} {c : Code} {b L : Nat} {xs : Nat → Int32} {E : fw_E} {Q : State → Prop} (C0 : lc_At p l s m meth c b L xs E) (n : Nat) (K : fw_M → Int64 → UInt64 → Int32 → Option Unit) (ih : ∀ (μ : fw_M) (o : Int64) (d : UInt64) (x5 : Int32) (H : Heap) (locs : List Loc) (ls : Array Slot) (cells slots : Nat), K μ o d x5 = some () → fw_P E o d μ H → va_S (fw_A E) s.heap H locs → lv_has ls 9 [(0, .ref b), (1, .ref (fw_ad E 0 10)), (2, .ref (fw_ad E 0 18)), (3, .ref (fw_ad E 0 27)), (4, .ref (fw_ad E 0 28)), (5, .int x5)] → cells + 4 * n ≤ 603072 → slots + 24 * n ≤ 7182442 → W p l e room_1 s m #[Value.ref b] below meth c H locs cells slots Q (F0 m 28 ls [])) : ∀ (μ : fw_M) (o : Int64) (d : UInt64) (x5 : Int32) (H : Heap) (locs : List Loc) (ls : Array Slot) (cells slots : Nat), f_law_C926 K xs L μ o d x5 = some () → fw_P E o d μ H → va_S (fw_A E) s.heap H locs → lv_has ls 9 [(0, .ref b), (1, .ref (fw_ad E 0 10)), (2, .ref (fw_ad E 0 18)), (3, .ref (fw_ad E 0 27)), (4, .ref (fw_ad E 0 28)), (5, .int x5)] → cells + 4 * (n + 1) ≤ 603072 → slots + 24 * (n + 1) ≤ 7182442 → W p l e room_1 s m #[Value.ref b] below meth c H locs cells slots Q (F0 m 926 ls []) := by
  obtain ⟨hx, hb, hml, hown, hU, hK, hSt, hN2, hE, hst, hX, hbl, hbA, hz⟩ := C0
  intro μ o d x5 H locs ls cells slots h hP hS hl hc1 hc2
  unfold f_law_C926 at h
  refine lv_aload_n hx hb dL_law_926 rfl (lv_at hl 1 rfl) ?_
  refine lv_aload_n hx hb dL_law_927 rfl (lv_at hl 0 rfl) ?_
  refine lv_iload hx hb dL_law_928 (lv_at hl 5 rfl) ?_
  refine lv_iconst (v := (1 : Int32)) hx hb dL_law_930 (by decide) ?_
  refine lv_iadd hx hb dL_law_931 ?_
  obtain ⟨g105, h⟩ := fw_g_e h
  refine va_sld hx hb hX hbl hbA hS (fw_in_e g105) dL_law_932 ?_
  refine lv_aload_n hx hb dL_law_933 rfl (lv_at hl 3 rfl) ?_
  obtain ⟨μ106, o106, d106, r106, hc106, h⟩ := fw_b4_e h
  refine fw_retL (vx_runSW (As := [.ref (fw_ad E 0 10), .int (xs (x5 + (1 : Int32)).toNatClampNeg), .ref (fw_ad E 0 27)]) (rest := []) ⟨hx, hb, hml, hown, hU⟩ (k_L_place l hst hE (xs (x5 + (1 : Int32)).toNatClampNeg) hc106) (vx_cwSW 3 hU (fw_gSW m_660 m_661 m_0 m_662) rfl rfl rfl (by decide +kernel) ⟨(Nat.le_of_ble_eq_true rfl), (Nat.le_of_ble_eq_true rfl)⟩) ⟨fw_blind2, fun U hU9 hW9 => ⟨rfl, fw_pre hK hP hSt hS U hU9 hW9, fw_S2_go hN2 hW9⟩⟩ rfl rfl hl.1 rfl (lv_room (Nat.le_of_ble_eq_true rfl)) dL_law_934 ⟨by show _ ≤ 603072; omega, by show _ ≤ 7182442; omega⟩) hS (fun H locs hP hS => ?_)
  refine lv_istore (lv' := [(6, .int r106), (0, .ref b), (1, .ref (fw_ad E 0 10)), (2, .ref (fw_ad E 0 18)), (3, .ref (fw_ad E 0 27)), (4, .ref (fw_ad E 0 28)), (5, .int x5)]) hx hb dL_law_937 hl (by decide) rfl (fun ls hl => ?_)
  refine lv_aload_n hx hb dL_law_939 rfl (lv_at hl 3 rfl) ?_
  refine lv_aload_n hx hb dL_law_940 rfl (lv_at hl 1 rfl) ?_
  refine lv_iload hx hb dL_law_941 (lv_at hl 6 rfl) ?_
  refine lv_iconst (v := (1 : Int32)) hx hb dL_law_943 (by decide) ?_
  refine lv_iadd hx hb dL_law_944 ?_
  refine va_sld hx hb hX hbl hbA hS (fw_in_e g105) dL_law_945 ?_
  obtain ⟨μ107, r107, hc107, h⟩ := fw_b2_e h
  refine fw_ret (va_runV (As := [.int (xs (x5 + (1 : Int32)).toNatClampNeg)]) (rest := []) ⟨hx, hb, hml, hown, hU⟩ (k_X10_place l hE (xs (x5 + (1 : Int32)).toNatClampNeg) hc107) (cwV 1 hU (fw_gV m_1357 m_1358 m_1359 m_9 m_1360) rfl rfl rfl (by decide +kernel) ⟨(Nat.le_of_ble_eq_true rfl), (Nat.le_of_ble_eq_true rfl)⟩) ⟨fw_blind, fw_recv hK hP (fw_V0 (f := 18) (by decide) (by decide)) rfl rfl, fun U hU9 hW9 => ⟨rfl, fw_pre hK hP hSt hS U hU9 hW9⟩⟩ rfl rfl hl.1 rfl (lv_room (Nat.le_of_ble_eq_true rfl)) dL_law_946 ⟨by show _ ≤ 603072; omega, by show _ ≤ 7182442; omega⟩) hS (fun H locs hP hS => ?_)
  refine lv_istore (lv' := [(7, .int r107), (6, .int r106), (0, .ref b), (1, .ref (fw_ad E 0 10)), (2, .ref (fw_ad E 0 18)), (3, .ref (fw_ad E 0 27)), (4, .ref (fw_ad E 0 28)), (5, .int x5)]) hx hb dL_law_949 hl (by decide) rfl (fun ls hl => ?_)
  refine lv_aload_n hx hb dL_law_951 rfl (lv_at hl 4 rfl) ?_
  obtain ⟨r108, hc108, h⟩ := fw_b1_e h
  refine fw_ret (va_runV (As := []) (rest := []) ⟨hx, hb, hml, hown, hU⟩ (k_X10_thrown l hE hc108) (cwV 0 hU (fw_gV m_1178 m_1179 m_1180 m_9 m_1181) rfl rfl rfl (by decide +kernel) ⟨(Nat.le_of_ble_eq_true rfl), (Nat.le_of_ble_eq_true rfl)⟩) ⟨fw_blind, fw_recv hK hP (fw_V0 (f := 18) (by decide) (by decide)) rfl rfl, fun U hU9 hW9 => ⟨rfl, fw_pre hK hP hSt hS U hU9 hW9⟩⟩ rfl rfl hl.1 rfl (lv_room (Nat.le_of_ble_eq_true rfl)) dL_law_952 ⟨by show _ ≤ 603072; omega, by show _ ≤ 7182442; omega⟩) hS (fun H locs hP hS => ?_)
  refine lv_iload hx hb dL_law_955 (lv_at hl 1 rfl) ?_
  refine lv_icmp_eq (tgt := 962) hx hb dL_law_957 (by decide) (fun c109 => ?_) (fun c109 => ?_)
  · rw [if_pos c109] at h
    refine lv_iload hx hb dL_law_962 (lv_at hl 1 rfl) ?_
    refine lv_if_ne (tgt := 979) hx hb dL_law_964 (by decide) (fun c110 => ?_) (fun c110 => ?_)
    · rw [if_neg c110] at h
      refine lv_goto (tgt := 2765) hx hb dL_law_979 (by decide) ?_
      refine lv_iinc (v := (x5 + (5 : Int32))) (lv' := [(5, .int (x5 + (5 : Int32))), (7, .int r107), (6, .int r106), (0, .ref b), (1, .ref (fw_ad E 0 10)), (2, .ref (fw_ad E 0 18)), (3, .ref (fw_ad E 0 27)), (4, .ref (fw_ad E 0 28))]) hx hb dL_law_2765 hl (k := 7) rfl rfl (by decide) rfl (fun ls hl => ?_)
      refine lv_goto (tgt := 28) hx hb dL_law_2768 (by decide) ?_
      exact ih _ _ _ _ H locs ls _ _ h hP hS (lv_sub hl [3, 4, 5, 6, 7, 0] rfl) (by omega) (by omega)
    · rw [if_pos c110] at h
      refine lv_aload_n hx hb dL_law_967 rfl (lv_at hl 5 rfl) ?_
      refine lv_iconst (v := (0 : Int32)) hx hb dL_law_968 (by decide) ?_
      refine va_lald (D := fw_D E) hx hb hK (fw_at hP (fw_V0 (f := 27) (by decide) (by decide))) 0 6 rfl rfl (fw_in_e (n := 1) (by decide)) dL_law_969 ?_
      refine lv_iload hx hb dL_law_970 (lv_at hl 0 rfl) ?_
      refine lv_i2l (v := r107.toInt64) hx hb dL_law_972 rfl ?_
      refine W.lcmp hx hb dL_law_973 ?_
      refine lv_if_eq (tgt := 979) hx hb dL_law_974 (by decide) (fun c111 => ?_) (fun c111 => ?_)
      · rw [if_pos c111] at h
        refine lv_goto (tgt := 2765) hx hb dL_law_979 (by decide) ?_
        refine lv_iinc (v := (x5 + (5 : Int32))) (lv' := [(5, .int (x5 + (5 : Int32))), (7, .int r107), (6, .int r106), (0, .ref b), (1, .ref (fw_ad E 0 10)), (2, .ref (fw_ad E 0 18)), (3, .ref (fw_ad E 0 27)), (4, .ref (fw_ad E 0 28))]) hx hb dL_law_2765 hl (k := 7) rfl rfl (by decide) rfl (fun ls hl => ?_)
        refine lv_goto (tgt := 28) hx hb dL_law_2768 (by decide) ?_
        exact ih _ _ _ _ H locs ls _ _ h hP hS (lv_sub hl [3, 4, 5, 6, 7, 0] rfl) (by omega) (by omega)
      · rw [if_neg c111] at h
        refine lv_iconst (v := (0 : Int32)) hx hb dL_law_977 (by decide) ?_
        cases h
  · rw [if_neg c109] at h
    refine lv_iconst (v := (0 : Int32)) hx hb dL_law_960 (by decide) ?_
    cases h
set_option maxHeartbeats 4000000 in
set_option maxRecDepth 100000 in
theorem law_C982 {p : Program} {l : Launch} {e : Env} {s : State} {m : MethodId} {below : List Frame} {meth : Method} {c : Code} {b L : Nat} {xs : Nat → Int32} {E : fw_E} {Q : State → Prop} (C0 : lc_At p l s m meth c b L xs E) (n : Nat) (K : fw_M → Int64 → UInt64 → Int32 → Option Unit) (ih : ∀ (μ : fw_M) (o : Int64) (d : UInt64) (x5 : Int32) (H : Heap) (locs : List Loc) (ls : Array Slot) (cells slots : Nat), K μ o d x5 = some () → fw_P E o d μ H → va_S (fw_A E) s.heap H locs → lv_has ls 9 [(0, .ref b), (1, .ref (fw_ad E 0 10)), (2, .ref (fw_ad E 0 18)), (3, .ref (fw_ad E 0 27)), (4, .ref (fw_ad E 0 28)), (5, .int x5)] → cells + 4 * n ≤ 603072 → slots + 24 * n ≤ 7182442 → W p l e room_1 s m #[Value.ref b] below meth c H locs cells slots Q (F0 m 28 ls [])) : ∀ (μ : fw_M) (o : Int64) (d : UInt64) (x5 : Int32) (H : Heap) (locs : List Loc) (ls : Array Slot) (cells slots : Nat), f_law_C982 K xs L μ o d x5 = some () → fw_P E o d μ H → va_S (fw_A E) s.heap H locs → lv_has ls 9 [(0, .ref b), (1, .ref (fw_ad E 0 10)), (2, .ref (fw_ad E 0 18)), (3, .ref (fw_ad E 0 27)), (4, .ref (fw_ad E 0 28)), (5, .int x5)] → cells + 4 * (n + 1) ≤ 603072 → slots + 24 * (n + 1) ≤ 7182442 → W p l e room_1 s m #[Value.ref b] below meth c H locs cells slots Q (F0 m 982 ls []) := by
  obtain ⟨hx, hb, hml, hown, hU, hK, hSt, hN2, hE, hst, hX, hbl, hbA, hz⟩ := C0
  intro μ o d x5 H locs ls cells slots h hP hS hl hc1 hc2
  unfold f_law_C982 at h
  refine lv_aload_n hx hb dL_law_982 rfl (lv_at hl 1 rfl) ?_
  refine lv_aload_n hx hb dL_law_983 rfl (lv_at hl 0 rfl) ?_
  refine lv_iload hx hb dL_law_984 (lv_at hl 5 rfl) ?_
  refine lv_iconst (v := (1 : Int32)) hx hb dL_law_986 (by decide) ?_
  refine lv_iadd hx hb dL_law_987 ?_
  obtain ⟨g112, h⟩ := fw_g_e h
  refine va_sld hx hb hX hbl hbA hS (fw_in_e g112) dL_law_988 ?_
  refine lv_aload_n hx hb dL_law_989 rfl (lv_at hl 3 rfl) ?_
  obtain ⟨μ113, o113, d113, r113, hc113, h⟩ := fw_b4_e h
  refine fw_retL (vx_runSW (As := [.ref (fw_ad E 0 10), .int (xs (x5 + (1 : Int32)).toNatClampNeg), .ref (fw_ad E 0 27)]) (rest := []) ⟨hx, hb, hml, hown, hU⟩ (k_L_washes l hst hE (xs (x5 + (1 : Int32)).toNatClampNeg) hc113) (vx_cwSW 3 hU (fw_gSW m_670 m_671 m_0 m_672) rfl rfl rfl (by decide +kernel) ⟨(Nat.le_of_ble_eq_true rfl), (Nat.le_of_ble_eq_true rfl)⟩) ⟨fw_blind2, fun U hU9 hW9 => ⟨rfl, fw_pre hK hP hSt hS U hU9 hW9, fw_S2_go hN2 hW9⟩⟩ rfl rfl hl.1 rfl (lv_room (Nat.le_of_ble_eq_true rfl)) dL_law_990 ⟨by show _ ≤ 603072; omega, by show _ ≤ 7182442; omega⟩) hS (fun H locs hP hS => ?_)
  refine lv_istore (lv' := [(6, .int r113), (0, .ref b), (1, .ref (fw_ad E 0 10)), (2, .ref (fw_ad E 0 18)), (3, .ref (fw_ad E 0 27)), (4, .ref (fw_ad E 0 28)), (5, .int x5)]) hx hb dL_law_993 hl (by decide) rfl (fun ls hl => ?_)
  refine lv_aload_n hx hb dL_law_995 rfl (lv_at hl 3 rfl) ?_
  refine lv_aload_n hx hb dL_law_996 rfl (lv_at hl 1 rfl) ?_
  refine lv_iload hx hb dL_law_997 (lv_at hl 6 rfl) ?_
  refine lv_iconst (v := (1 : Int32)) hx hb dL_law_999 (by decide) ?_
  refine lv_iadd hx hb dL_law_1000 ?_
  refine va_sld hx hb hX hbl hbA hS (fw_in_e g112) dL_law_1001 ?_
  obtain ⟨μ114, r114, hc114, h⟩ := fw_b2_e h
  refine fw_ret (va_runV (As := [.int (xs (x5 + (1 : Int32)).toNatClampNeg)]) (rest := []) ⟨hx, hb, hml, hown, hU⟩ (k_X10_washes l hE (xs (x5 + (1 : Int32)).toNatClampNeg) hc114) (cwV 1 hU (fw_gV m_1363 m_1364 m_1365 m_9 m_1366) rfl rfl rfl (by decide +kernel) ⟨(Nat.le_of_ble_eq_true rfl), (Nat.le_of_ble_eq_true rfl)⟩) ⟨fw_blind, fw_recv hK hP (fw_V0 (f := 18) (by decide) (by decide)) rfl rfl, fun U hU9 hW9 => ⟨rfl, fw_pre hK hP hSt hS U hU9 hW9⟩⟩ rfl rfl hl.1 rfl (lv_room (Nat.le_of_ble_eq_true rfl)) dL_law_1002 ⟨by show _ ≤ 603072; omega, by show _ ≤ 7182442; omega⟩) hS (fun H locs hP hS => ?_)
  refine lv_istore (lv' := [(7, .int r114), (6, .int r113), (0, .ref b), (1, .ref (fw_ad E 0 10)), (2, .ref (fw_ad E 0 18)), (3, .ref (fw_ad E 0 27)), (4, .ref (fw_ad E 0 28)), (5, .int x5)]) hx hb dL_law_1005 hl (by decide) rfl (fun ls hl => ?_)
  refine lv_aload_n hx hb dL_law_1007 rfl (lv_at hl 4 rfl) ?_
  obtain ⟨r115, hc115, h⟩ := fw_b1_e h
  refine fw_ret (va_runV (As := []) (rest := []) ⟨hx, hb, hml, hown, hU⟩ (k_X10_thrown l hE hc115) (cwV 0 hU (fw_gV m_1178 m_1179 m_1180 m_9 m_1181) rfl rfl rfl (by decide +kernel) ⟨(Nat.le_of_ble_eq_true rfl), (Nat.le_of_ble_eq_true rfl)⟩) ⟨fw_blind, fw_recv hK hP (fw_V0 (f := 18) (by decide) (by decide)) rfl rfl, fun U hU9 hW9 => ⟨rfl, fw_pre hK hP hSt hS U hU9 hW9⟩⟩ rfl rfl hl.1 rfl (lv_room (Nat.le_of_ble_eq_true rfl)) dL_law_1008 ⟨by show _ ≤ 603072; omega, by show _ ≤ 7182442; omega⟩) hS (fun H locs hP hS => ?_)
  refine lv_iload hx hb dL_law_1011 (lv_at hl 1 rfl) ?_
  refine lv_icmp_eq (tgt := 1018) hx hb dL_law_1013 (by decide) (fun c116 => ?_) (fun c116 => ?_)
  · rw [if_pos c116] at h
    refine lv_iload hx hb dL_law_1018 (lv_at hl 1 rfl) ?_
    refine lv_if_ne (tgt := 1035) hx hb dL_law_1020 (by decide) (fun c117 => ?_) (fun c117 => ?_)
    · rw [if_neg c117] at h
      refine lv_goto (tgt := 2765) hx hb dL_law_1035 (by decide) ?_
      refine lv_iinc (v := (x5 + (5 : Int32))) (lv' := [(5, .int (x5 + (5 : Int32))), (7, .int r114), (6, .int r113), (0, .ref b), (1, .ref (fw_ad E 0 10)), (2, .ref (fw_ad E 0 18)), (3, .ref (fw_ad E 0 27)), (4, .ref (fw_ad E 0 28))]) hx hb dL_law_2765 hl (k := 7) rfl rfl (by decide) rfl (fun ls hl => ?_)
      refine lv_goto (tgt := 28) hx hb dL_law_2768 (by decide) ?_
      exact ih _ _ _ _ H locs ls _ _ h hP hS (lv_sub hl [3, 4, 5, 6, 7, 0] rfl) (by omega) (by omega)
    · rw [if_pos c117] at h
      refine lv_aload_n hx hb dL_law_1023 rfl (lv_at hl 5 rfl) ?_
      refine lv_iconst (v := (0 : Int32)) hx hb dL_law_1024 (by decide) ?_
      refine va_lald (D := fw_D E) hx hb hK (fw_at hP (fw_V0 (f := 27) (by decide) (by decide))) 0 6 rfl rfl (fw_in_e (n := 1) (by decide)) dL_law_1025 ?_
      refine lv_iload hx hb dL_law_1026 (lv_at hl 0 rfl) ?_
      refine lv_i2l (v := r114.toInt64) hx hb dL_law_1028 rfl ?_
      refine W.lcmp hx hb dL_law_1029 ?_
      refine lv_if_eq (tgt := 1035) hx hb dL_law_1030 (by decide) (fun c118 => ?_) (fun c118 => ?_)
      · rw [if_pos c118] at h
        refine lv_goto (tgt := 2765) hx hb dL_law_1035 (by decide) ?_
        refine lv_iinc (v := (x5 + (5 : Int32))) (lv' := [(5, .int (x5 + (5 : Int32))), (7, .int r114), (6, .int r113), (0, .ref b), (1, .ref (fw_ad E 0 10)), (2, .ref (fw_ad E 0 18)), (3, .ref (fw_ad E 0 27)), (4, .ref (fw_ad E 0 28))]) hx hb dL_law_2765 hl (k := 7) rfl rfl (by decide) rfl (fun ls hl => ?_)
        refine lv_goto (tgt := 28) hx hb dL_law_2768 (by decide) ?_
        exact ih _ _ _ _ H locs ls _ _ h hP hS (lv_sub hl [3, 4, 5, 6, 7, 0] rfl) (by omega) (by omega)
      · rw [if_neg c118] at h
        refine lv_iconst (v := (0 : Int32)) hx hb dL_law_1033 (by decide) ?_
        cases h
  · rw [if_neg c116] at h
    refine lv_iconst (v := (0 : Int32)) hx hb dL_law_1016 (by decide) ?_
    cases h
set_option maxHeartbeats 4000000 in
set_option maxRecDepth 100000 in
theorem law_C1038 {p : Program} {l : Launch} {e : Env} {s : State} {m : MethodId} {below : List Frame} {meth : Method} {c : Code} {b L : Nat} {xs : Nat → Int32} {E : fw_E} {Q : State → Prop} (C0 : lc_At p l s m meth c b L xs E) (n : Nat) (K : fw_M → Int64 → UInt64 → Int32 → Option Unit) (ih : ∀ (μ : fw_M) (o : Int64) (d : UInt64) (x5 : Int32) (H : Heap) (locs : List Loc) (ls : Array Slot) (cells slots : Nat), K μ o d x5 = some () → fw_P E o d μ H → va_S (fw_A E) s.heap H locs → lv_has ls 9 [(0, .ref b), (1, .ref (fw_ad E 0 10)), (2, .ref (fw_ad E 0 18)), (3, .ref (fw_ad E 0 27)), (4, .ref (fw_ad E 0 28)), (5, .int x5)] → cells + 4 * n ≤ 603072 → slots + 24 * n ≤ 7182442 → W p l e room_1 s m #[Value.ref b] below meth c H locs cells slots Q (F0 m 28 ls [])) : ∀ (μ : fw_M) (o : Int64) (d : UInt64) (x5 : Int32) (H : Heap) (locs : List Loc) (ls : Array Slot) (cells slots : Nat), f_law_C1038 K xs L μ o d x5 = some () → fw_P E o d μ H → va_S (fw_A E) s.heap H locs → lv_has ls 9 [(0, .ref b), (1, .ref (fw_ad E 0 10)), (2, .ref (fw_ad E 0 18)), (3, .ref (fw_ad E 0 27)), (4, .ref (fw_ad E 0 28)), (5, .int x5)] → cells + 4 * (n + 1) ≤ 603072 → slots + 24 * (n + 1) ≤ 7182442 → W p l e room_1 s m #[Value.ref b] below meth c H locs cells slots Q (F0 m 1038 ls []) := by
  obtain ⟨hx, hb, hml, hown, hU, hK, hSt, hN2, hE, hst, hX, hbl, hbA, hz⟩ := C0
  intro μ o d x5 H locs ls cells slots h hP hS hl hc1 hc2
  unfold f_law_C1038 at h
  refine lv_aload_n hx hb dL_law_1038 rfl (lv_at hl 1 rfl) ?_
  refine lv_aload_n hx hb dL_law_1039 rfl (lv_at hl 0 rfl) ?_
  refine lv_iload hx hb dL_law_1040 (lv_at hl 5 rfl) ?_
  refine lv_iconst (v := (1 : Int32)) hx hb dL_law_1042 (by decide) ?_
  refine lv_iadd hx hb dL_law_1043 ?_
  obtain ⟨g119, h⟩ := fw_g_e h
  refine va_sld hx hb hX hbl hbA hS (fw_in_e g119) dL_law_1044 ?_
  refine lv_aload_n hx hb dL_law_1045 rfl (lv_at hl 3 rfl) ?_
  obtain ⟨μ120, o120, d120, r120, hc120, h⟩ := fw_b4_e h
  refine fw_retL (vx_runSW (As := [.ref (fw_ad E 0 10), .int (xs (x5 + (1 : Int32)).toNatClampNeg), .ref (fw_ad E 0 27)]) (rest := []) ⟨hx, hb, hml, hown, hU⟩ (k_L_partner l hst hE (xs (x5 + (1 : Int32)).toNatClampNeg) hc120) (vx_cwSW 3 hU (fw_gSW m_677 m_678 m_0 m_679) rfl rfl rfl (by decide +kernel) ⟨(Nat.le_of_ble_eq_true rfl), (Nat.le_of_ble_eq_true rfl)⟩) ⟨fw_blind2, fun U hU9 hW9 => ⟨rfl, fw_pre hK hP hSt hS U hU9 hW9, fw_S2_go hN2 hW9⟩⟩ rfl rfl hl.1 rfl (lv_room (Nat.le_of_ble_eq_true rfl)) dL_law_1046 ⟨by show _ ≤ 603072; omega, by show _ ≤ 7182442; omega⟩) hS (fun H locs hP hS => ?_)
  refine lv_istore (lv' := [(6, .int r120), (0, .ref b), (1, .ref (fw_ad E 0 10)), (2, .ref (fw_ad E 0 18)), (3, .ref (fw_ad E 0 27)), (4, .ref (fw_ad E 0 28)), (5, .int x5)]) hx hb dL_law_1049 hl (by decide) rfl (fun ls hl => ?_)
  refine lv_aload_n hx hb dL_law_1051 rfl (lv_at hl 3 rfl) ?_
  refine lv_aload_n hx hb dL_law_1052 rfl (lv_at hl 1 rfl) ?_
  refine lv_iload hx hb dL_law_1053 (lv_at hl 6 rfl) ?_
  refine lv_iconst (v := (1 : Int32)) hx hb dL_law_1055 (by decide) ?_
  refine lv_iadd hx hb dL_law_1056 ?_
  refine va_sld hx hb hX hbl hbA hS (fw_in_e g119) dL_law_1057 ?_
  obtain ⟨μ121, r121, hc121, h⟩ := fw_b2_e h
  refine fw_ret (va_runV (As := [.int (xs (x5 + (1 : Int32)).toNatClampNeg)]) (rest := []) ⟨hx, hb, hml, hown, hU⟩ (k_X10_partner l hE (xs (x5 + (1 : Int32)).toNatClampNeg) hc121) (cwV 1 hU (fw_gV m_1367 m_1368 m_1369 m_9 m_1370) rfl rfl rfl (by decide +kernel) ⟨(Nat.le_of_ble_eq_true rfl), (Nat.le_of_ble_eq_true rfl)⟩) ⟨fw_blind, fw_recv hK hP (fw_V0 (f := 18) (by decide) (by decide)) rfl rfl, fun U hU9 hW9 => ⟨rfl, fw_pre hK hP hSt hS U hU9 hW9⟩⟩ rfl rfl hl.1 rfl (lv_room (Nat.le_of_ble_eq_true rfl)) dL_law_1058 ⟨by show _ ≤ 603072; omega, by show _ ≤ 7182442; omega⟩) hS (fun H locs hP hS => ?_)
  refine lv_istore (lv' := [(7, .int r121), (6, .int r120), (0, .ref b), (1, .ref (fw_ad E 0 10)), (2, .ref (fw_ad E 0 18)), (3, .ref (fw_ad E 0 27)), (4, .ref (fw_ad E 0 28)), (5, .int x5)]) hx hb dL_law_1061 hl (by decide) rfl (fun ls hl => ?_)
  refine lv_aload_n hx hb dL_law_1063 rfl (lv_at hl 4 rfl) ?_
  obtain ⟨r122, hc122, h⟩ := fw_b1_e h
  refine fw_ret (va_runV (As := []) (rest := []) ⟨hx, hb, hml, hown, hU⟩ (k_X10_thrown l hE hc122) (cwV 0 hU (fw_gV m_1178 m_1179 m_1180 m_9 m_1181) rfl rfl rfl (by decide +kernel) ⟨(Nat.le_of_ble_eq_true rfl), (Nat.le_of_ble_eq_true rfl)⟩) ⟨fw_blind, fw_recv hK hP (fw_V0 (f := 18) (by decide) (by decide)) rfl rfl, fun U hU9 hW9 => ⟨rfl, fw_pre hK hP hSt hS U hU9 hW9⟩⟩ rfl rfl hl.1 rfl (lv_room (Nat.le_of_ble_eq_true rfl)) dL_law_1064 ⟨by show _ ≤ 603072; omega, by show _ ≤ 7182442; omega⟩) hS (fun H locs hP hS => ?_)
  refine lv_iload hx hb dL_law_1067 (lv_at hl 1 rfl) ?_
  refine lv_icmp_eq (tgt := 1074) hx hb dL_law_1069 (by decide) (fun c123 => ?_) (fun c123 => ?_)
  · rw [if_pos c123] at h
    refine lv_iload hx hb dL_law_1074 (lv_at hl 1 rfl) ?_
    refine lv_if_ne (tgt := 1091) hx hb dL_law_1076 (by decide) (fun c124 => ?_) (fun c124 => ?_)
    · rw [if_neg c124] at h
      refine lv_goto (tgt := 2765) hx hb dL_law_1091 (by decide) ?_
      refine lv_iinc (v := (x5 + (5 : Int32))) (lv' := [(5, .int (x5 + (5 : Int32))), (7, .int r121), (6, .int r120), (0, .ref b), (1, .ref (fw_ad E 0 10)), (2, .ref (fw_ad E 0 18)), (3, .ref (fw_ad E 0 27)), (4, .ref (fw_ad E 0 28))]) hx hb dL_law_2765 hl (k := 7) rfl rfl (by decide) rfl (fun ls hl => ?_)
      refine lv_goto (tgt := 28) hx hb dL_law_2768 (by decide) ?_
      exact ih _ _ _ _ H locs ls _ _ h hP hS (lv_sub hl [3, 4, 5, 6, 7, 0] rfl) (by omega) (by omega)
    · rw [if_pos c124] at h
      refine lv_aload_n hx hb dL_law_1079 rfl (lv_at hl 5 rfl) ?_
      refine lv_iconst (v := (0 : Int32)) hx hb dL_law_1080 (by decide) ?_
      refine va_lald (D := fw_D E) hx hb hK (fw_at hP (fw_V0 (f := 27) (by decide) (by decide))) 0 6 rfl rfl (fw_in_e (n := 1) (by decide)) dL_law_1081 ?_
      refine lv_iload hx hb dL_law_1082 (lv_at hl 0 rfl) ?_
      refine lv_i2l (v := r121.toInt64) hx hb dL_law_1084 rfl ?_
      refine W.lcmp hx hb dL_law_1085 ?_
      refine lv_if_eq (tgt := 1091) hx hb dL_law_1086 (by decide) (fun c125 => ?_) (fun c125 => ?_)
      · rw [if_pos c125] at h
        refine lv_goto (tgt := 2765) hx hb dL_law_1091 (by decide) ?_
        refine lv_iinc (v := (x5 + (5 : Int32))) (lv' := [(5, .int (x5 + (5 : Int32))), (7, .int r121), (6, .int r120), (0, .ref b), (1, .ref (fw_ad E 0 10)), (2, .ref (fw_ad E 0 18)), (3, .ref (fw_ad E 0 27)), (4, .ref (fw_ad E 0 28))]) hx hb dL_law_2765 hl (k := 7) rfl rfl (by decide) rfl (fun ls hl => ?_)
        refine lv_goto (tgt := 28) hx hb dL_law_2768 (by decide) ?_
        exact ih _ _ _ _ H locs ls _ _ h hP hS (lv_sub hl [3, 4, 5, 6, 7, 0] rfl) (by omega) (by omega)
      · rw [if_neg c125] at h
        refine lv_iconst (v := (0 : Int32)) hx hb dL_law_1089 (by decide) ?_
        cases h
  · rw [if_neg c123] at h
    refine lv_iconst (v := (0 : Int32)) hx hb dL_law_1072 (by decide) ?_
    cases h
set_option maxHeartbeats 4000000 in
set_option maxRecDepth 100000 in
theorem law_C1094 {p : Program} {l : Launch} {e : Env} {s : State} {m : MethodId} {below : List Frame} {meth : Method} {c : Code} {b L : Nat} {xs : Nat → Int32} {E : fw_E} {Q : State → Prop} (C0 : lc_At p l s m meth c b L xs E) (n : Nat) (K : fw_M → Int64 → UInt64 → Int32 → Option Unit) (ih : ∀ (μ : fw_M) (o : Int64) (d : UInt64) (x5 : Int32) (H : Heap) (locs : List Loc) (ls : Array Slot) (cells slots : Nat), K μ o d x5 = some () → fw_P E o d μ H → va_S (fw_A E) s.heap H locs → lv_has ls 9 [(0, .ref b), (1, .ref (fw_ad E 0 10)), (2, .ref (fw_ad E 0 18)), (3, .ref (fw_ad E 0 27)), (4, .ref (fw_ad E 0 28)), (5, .int x5)] → cells + 4 * n ≤ 603072 → slots + 24 * n ≤ 7182442 → W p l e room_1 s m #[Value.ref b] below meth c H locs cells slots Q (F0 m 28 ls [])) : ∀ (μ : fw_M) (o : Int64) (d : UInt64) (x5 : Int32) (H : Heap) (locs : List Loc) (ls : Array Slot) (cells slots : Nat), f_law_C1094 K xs L μ o d x5 = some () → fw_P E o d μ H → va_S (fw_A E) s.heap H locs → lv_has ls 9 [(0, .ref b), (1, .ref (fw_ad E 0 10)), (2, .ref (fw_ad E 0 18)), (3, .ref (fw_ad E 0 27)), (4, .ref (fw_ad E 0 28)), (5, .int x5)] → cells + 4 * (n + 1) ≤ 603072 → slots + 24 * (n + 1) ≤ 7182442 → W p l e room_1 s m #[Value.ref b] below meth c H locs cells slots Q (F0 m 1094 ls []) := by
  obtain ⟨hx, hb, hml, hown, hU, hK, hSt, hN2, hE, hst, hX, hbl, hbA, hz⟩ := C0
  intro μ o d x5 H locs ls cells slots h hP hS hl hc1 hc2
  unfold f_law_C1094 at h
  refine lv_aload_n hx hb dL_law_1094 rfl (lv_at hl 1 rfl) ?_
  refine lv_aload_n hx hb dL_law_1095 rfl (lv_at hl 0 rfl) ?_
  refine lv_iload hx hb dL_law_1096 (lv_at hl 5 rfl) ?_
  refine lv_iconst (v := (1 : Int32)) hx hb dL_law_1098 (by decide) ?_
  refine lv_iadd hx hb dL_law_1099 ?_
  obtain ⟨g126, h⟩ := fw_g_e h
  refine va_sld hx hb hX hbl hbA hS (fw_in_e g126) dL_law_1100 ?_
  refine lv_aload_n hx hb dL_law_1101 rfl (lv_at hl 3 rfl) ?_
  obtain ⟨μ127, o127, d127, r127, hc127, h⟩ := fw_b4_e h
  refine fw_retL (vx_runSW (As := [.ref (fw_ad E 0 10), .int (xs (x5 + (1 : Int32)).toNatClampNeg), .ref (fw_ad E 0 27)]) (rest := []) ⟨hx, hb, hml, hown, hU⟩ (k_L_pairCount l hst hE (xs (x5 + (1 : Int32)).toNatClampNeg) hc127) (vx_cwSW 3 hU (fw_gSW m_703 m_704 m_0 m_705) rfl rfl rfl (by decide +kernel) ⟨(Nat.le_of_ble_eq_true rfl), (Nat.le_of_ble_eq_true rfl)⟩) ⟨fw_blind2, fun U hU9 hW9 => ⟨rfl, fw_pre hK hP hSt hS U hU9 hW9, fw_S2_go hN2 hW9⟩⟩ rfl rfl hl.1 rfl (lv_room (Nat.le_of_ble_eq_true rfl)) dL_law_1102 ⟨by show _ ≤ 603072; omega, by show _ ≤ 7182442; omega⟩) hS (fun H locs hP hS => ?_)
  refine lv_istore (lv' := [(6, .int r127), (0, .ref b), (1, .ref (fw_ad E 0 10)), (2, .ref (fw_ad E 0 18)), (3, .ref (fw_ad E 0 27)), (4, .ref (fw_ad E 0 28)), (5, .int x5)]) hx hb dL_law_1105 hl (by decide) rfl (fun ls hl => ?_)
  refine lv_aload_n hx hb dL_law_1107 rfl (lv_at hl 3 rfl) ?_
  refine lv_aload_n hx hb dL_law_1108 rfl (lv_at hl 1 rfl) ?_
  refine lv_iload hx hb dL_law_1109 (lv_at hl 6 rfl) ?_
  refine lv_iconst (v := (1 : Int32)) hx hb dL_law_1111 (by decide) ?_
  refine lv_iadd hx hb dL_law_1112 ?_
  refine va_sld hx hb hX hbl hbA hS (fw_in_e g126) dL_law_1113 ?_
  obtain ⟨μ128, r128, hc128, h⟩ := fw_b2_e h
  refine fw_ret (va_runV (As := [.int (xs (x5 + (1 : Int32)).toNatClampNeg)]) (rest := []) ⟨hx, hb, hml, hown, hU⟩ (k_X10_pairCount l hE (xs (x5 + (1 : Int32)).toNatClampNeg) hc128) (cwV 1 hU (fw_gV m_1379 m_1380 m_1381 m_9 m_1382) rfl rfl rfl (by decide +kernel) ⟨(Nat.le_of_ble_eq_true rfl), (Nat.le_of_ble_eq_true rfl)⟩) ⟨fw_blind, fw_recv hK hP (fw_V0 (f := 18) (by decide) (by decide)) rfl rfl, fun U hU9 hW9 => ⟨rfl, fw_pre hK hP hSt hS U hU9 hW9⟩⟩ rfl rfl hl.1 rfl (lv_room (Nat.le_of_ble_eq_true rfl)) dL_law_1114 ⟨by show _ ≤ 603072; omega, by show _ ≤ 7182442; omega⟩) hS (fun H locs hP hS => ?_)
  refine lv_istore (lv' := [(7, .int r128), (6, .int r127), (0, .ref b), (1, .ref (fw_ad E 0 10)), (2, .ref (fw_ad E 0 18)), (3, .ref (fw_ad E 0 27)), (4, .ref (fw_ad E 0 28)), (5, .int x5)]) hx hb dL_law_1117 hl (by decide) rfl (fun ls hl => ?_)
  refine lv_aload_n hx hb dL_law_1119 rfl (lv_at hl 4 rfl) ?_
  obtain ⟨r129, hc129, h⟩ := fw_b1_e h
  refine fw_ret (va_runV (As := []) (rest := []) ⟨hx, hb, hml, hown, hU⟩ (k_X10_thrown l hE hc129) (cwV 0 hU (fw_gV m_1178 m_1179 m_1180 m_9 m_1181) rfl rfl rfl (by decide +kernel) ⟨(Nat.le_of_ble_eq_true rfl), (Nat.le_of_ble_eq_true rfl)⟩) ⟨fw_blind, fw_recv hK hP (fw_V0 (f := 18) (by decide) (by decide)) rfl rfl, fun U hU9 hW9 => ⟨rfl, fw_pre hK hP hSt hS U hU9 hW9⟩⟩ rfl rfl hl.1 rfl (lv_room (Nat.le_of_ble_eq_true rfl)) dL_law_1120 ⟨by show _ ≤ 603072; omega, by show _ ≤ 7182442; omega⟩) hS (fun H locs hP hS => ?_)
  refine lv_iload hx hb dL_law_1123 (lv_at hl 1 rfl) ?_
  refine lv_icmp_eq (tgt := 1130) hx hb dL_law_1125 (by decide) (fun c130 => ?_) (fun c130 => ?_)
  · rw [if_pos c130] at h
    refine lv_iload hx hb dL_law_1130 (lv_at hl 1 rfl) ?_
    refine lv_if_ne (tgt := 1147) hx hb dL_law_1132 (by decide) (fun c131 => ?_) (fun c131 => ?_)
    · rw [if_neg c131] at h
      refine lv_goto (tgt := 2765) hx hb dL_law_1147 (by decide) ?_
      refine lv_iinc (v := (x5 + (5 : Int32))) (lv' := [(5, .int (x5 + (5 : Int32))), (7, .int r128), (6, .int r127), (0, .ref b), (1, .ref (fw_ad E 0 10)), (2, .ref (fw_ad E 0 18)), (3, .ref (fw_ad E 0 27)), (4, .ref (fw_ad E 0 28))]) hx hb dL_law_2765 hl (k := 7) rfl rfl (by decide) rfl (fun ls hl => ?_)
      refine lv_goto (tgt := 28) hx hb dL_law_2768 (by decide) ?_
      exact ih _ _ _ _ H locs ls _ _ h hP hS (lv_sub hl [3, 4, 5, 6, 7, 0] rfl) (by omega) (by omega)
    · rw [if_pos c131] at h
      refine lv_aload_n hx hb dL_law_1135 rfl (lv_at hl 5 rfl) ?_
      refine lv_iconst (v := (0 : Int32)) hx hb dL_law_1136 (by decide) ?_
      refine va_lald (D := fw_D E) hx hb hK (fw_at hP (fw_V0 (f := 27) (by decide) (by decide))) 0 6 rfl rfl (fw_in_e (n := 1) (by decide)) dL_law_1137 ?_
      refine lv_iload hx hb dL_law_1138 (lv_at hl 0 rfl) ?_
      refine lv_i2l (v := r128.toInt64) hx hb dL_law_1140 rfl ?_
      refine W.lcmp hx hb dL_law_1141 ?_
      refine lv_if_eq (tgt := 1147) hx hb dL_law_1142 (by decide) (fun c132 => ?_) (fun c132 => ?_)
      · rw [if_pos c132] at h
        refine lv_goto (tgt := 2765) hx hb dL_law_1147 (by decide) ?_
        refine lv_iinc (v := (x5 + (5 : Int32))) (lv' := [(5, .int (x5 + (5 : Int32))), (7, .int r128), (6, .int r127), (0, .ref b), (1, .ref (fw_ad E 0 10)), (2, .ref (fw_ad E 0 18)), (3, .ref (fw_ad E 0 27)), (4, .ref (fw_ad E 0 28))]) hx hb dL_law_2765 hl (k := 7) rfl rfl (by decide) rfl (fun ls hl => ?_)
        refine lv_goto (tgt := 28) hx hb dL_law_2768 (by decide) ?_
        exact ih _ _ _ _ H locs ls _ _ h hP hS (lv_sub hl [3, 4, 5, 6, 7, 0] rfl) (by omega) (by omega)
      · rw [if_neg c132] at h
        refine lv_iconst (v := (0 : Int32)) hx hb dL_law_1145 (by decide) ?_
        cases h
  · rw [if_neg c130] at h
    refine lv_iconst (v := (0 : Int32)) hx hb dL_law_1128 (by decide) ?_
    cases h
set_option maxHeartbeats 4000000 in
set_option maxRecDepth 100000 in
theorem law_C1150 {p : Program} {l : Launch} {e : Env} {s : State} {m : MethodId} {below : List Frame} {meth : Method} {c : Code} {b L : Nat} {xs : Nat → Int32} {E : fw_E} {Q : State → Prop} (C0 : lc_At p l s m meth c b L xs E) (n : Nat) (K : fw_M → Int64 → UInt64 → Int32 → Option Unit) (ih : ∀ (μ : fw_M) (o : Int64) (d : UInt64) (x5 : Int32) (H : Heap) (locs : List Loc) (ls : Array Slot) (cells slots : Nat), K μ o d x5 = some () → fw_P E o d μ H → va_S (fw_A E) s.heap H locs → lv_has ls 9 [(0, .ref b), (1, .ref (fw_ad E 0 10)), (2, .ref (fw_ad E 0 18)), (3, .ref (fw_ad E 0 27)), (4, .ref (fw_ad E 0 28)), (5, .int x5)] → cells + 4 * n ≤ 603072 → slots + 24 * n ≤ 7182442 → W p l e room_1 s m #[Value.ref b] below meth c H locs cells slots Q (F0 m 28 ls [])) : ∀ (μ : fw_M) (o : Int64) (d : UInt64) (x5 : Int32) (H : Heap) (locs : List Loc) (ls : Array Slot) (cells slots : Nat), f_law_C1150 K xs L μ o d x5 = some () → fw_P E o d μ H → va_S (fw_A E) s.heap H locs → lv_has ls 9 [(0, .ref b), (1, .ref (fw_ad E 0 10)), (2, .ref (fw_ad E 0 18)), (3, .ref (fw_ad E 0 27)), (4, .ref (fw_ad E 0 28)), (5, .int x5)] → cells + 4 * (n + 1) ≤ 603072 → slots + 24 * (n + 1) ≤ 7182442 → W p l e room_1 s m #[Value.ref b] below meth c H locs cells slots Q (F0 m 1150 ls []) := by
  obtain ⟨hx, hb, hml, hown, hU, hK, hSt, hN2, hE, hst, hX, hbl, hbA, hz⟩ := C0
  intro μ o d x5 H locs ls cells slots h hP hS hl hc1 hc2
  unfold f_law_C1150 at h
  refine lv_aload_n hx hb dL_law_1150 rfl (lv_at hl 1 rfl) ?_
  refine lv_aload_n hx hb dL_law_1151 rfl (lv_at hl 0 rfl) ?_
  refine lv_iload hx hb dL_law_1152 (lv_at hl 5 rfl) ?_
  refine lv_iconst (v := (1 : Int32)) hx hb dL_law_1154 (by decide) ?_
  refine lv_iadd hx hb dL_law_1155 ?_
  obtain ⟨g133, h⟩ := fw_g_e h
  refine va_sld hx hb hX hbl hbA hS (fw_in_e g133) dL_law_1156 ?_
  refine lv_aload_n hx hb dL_law_1157 rfl (lv_at hl 3 rfl) ?_
  obtain ⟨μ134, o134, d134, r134, hc134, h⟩ := fw_b4_e h
  refine fw_retL (vx_runSW (As := [.ref (fw_ad E 0 10), .int (xs (x5 + (1 : Int32)).toNatClampNeg), .ref (fw_ad E 0 27)]) (rest := []) ⟨hx, hb, hml, hown, hU⟩ (k_L_pairCountByParity l hst hE (xs (x5 + (1 : Int32)).toNatClampNeg) hc134) (vx_cwSW 3 hU (fw_gSW m_715 m_716 m_0 m_717) rfl rfl rfl (by decide +kernel) ⟨(Nat.le_of_ble_eq_true rfl), (Nat.le_of_ble_eq_true rfl)⟩) ⟨fw_blind2, fun U hU9 hW9 => ⟨rfl, fw_pre hK hP hSt hS U hU9 hW9, fw_S2_go hN2 hW9⟩⟩ rfl rfl hl.1 rfl (lv_room (Nat.le_of_ble_eq_true rfl)) dL_law_1158 ⟨by show _ ≤ 603072; omega, by show _ ≤ 7182442; omega⟩) hS (fun H locs hP hS => ?_)
  refine lv_istore (lv' := [(6, .int r134), (0, .ref b), (1, .ref (fw_ad E 0 10)), (2, .ref (fw_ad E 0 18)), (3, .ref (fw_ad E 0 27)), (4, .ref (fw_ad E 0 28)), (5, .int x5)]) hx hb dL_law_1161 hl (by decide) rfl (fun ls hl => ?_)
  refine lv_aload_n hx hb dL_law_1163 rfl (lv_at hl 3 rfl) ?_
  refine lv_aload_n hx hb dL_law_1164 rfl (lv_at hl 1 rfl) ?_
  refine lv_iload hx hb dL_law_1165 (lv_at hl 6 rfl) ?_
  refine lv_iconst (v := (1 : Int32)) hx hb dL_law_1167 (by decide) ?_
  refine lv_iadd hx hb dL_law_1168 ?_
  refine va_sld hx hb hX hbl hbA hS (fw_in_e g133) dL_law_1169 ?_
  obtain ⟨μ135, r135, hc135, h⟩ := fw_b2_e h
  refine fw_ret (va_runV (As := [.int (xs (x5 + (1 : Int32)).toNatClampNeg)]) (rest := []) ⟨hx, hb, hml, hown, hU⟩ (k_X10_pairCountByParity l hE (xs (x5 + (1 : Int32)).toNatClampNeg) hc135) (cwV 1 hU (fw_gV m_1383 m_1384 m_1385 m_9 m_1386) rfl rfl rfl (by decide +kernel) ⟨(Nat.le_of_ble_eq_true rfl), (Nat.le_of_ble_eq_true rfl)⟩) ⟨fw_blind, fw_recv hK hP (fw_V0 (f := 18) (by decide) (by decide)) rfl rfl, fun U hU9 hW9 => ⟨rfl, fw_pre hK hP hSt hS U hU9 hW9⟩⟩ rfl rfl hl.1 rfl (lv_room (Nat.le_of_ble_eq_true rfl)) dL_law_1170 ⟨by show _ ≤ 603072; omega, by show _ ≤ 7182442; omega⟩) hS (fun H locs hP hS => ?_)
  refine lv_istore (lv' := [(7, .int r135), (6, .int r134), (0, .ref b), (1, .ref (fw_ad E 0 10)), (2, .ref (fw_ad E 0 18)), (3, .ref (fw_ad E 0 27)), (4, .ref (fw_ad E 0 28)), (5, .int x5)]) hx hb dL_law_1173 hl (by decide) rfl (fun ls hl => ?_)
  refine lv_aload_n hx hb dL_law_1175 rfl (lv_at hl 4 rfl) ?_
  obtain ⟨r136, hc136, h⟩ := fw_b1_e h
  refine fw_ret (va_runV (As := []) (rest := []) ⟨hx, hb, hml, hown, hU⟩ (k_X10_thrown l hE hc136) (cwV 0 hU (fw_gV m_1178 m_1179 m_1180 m_9 m_1181) rfl rfl rfl (by decide +kernel) ⟨(Nat.le_of_ble_eq_true rfl), (Nat.le_of_ble_eq_true rfl)⟩) ⟨fw_blind, fw_recv hK hP (fw_V0 (f := 18) (by decide) (by decide)) rfl rfl, fun U hU9 hW9 => ⟨rfl, fw_pre hK hP hSt hS U hU9 hW9⟩⟩ rfl rfl hl.1 rfl (lv_room (Nat.le_of_ble_eq_true rfl)) dL_law_1176 ⟨by show _ ≤ 603072; omega, by show _ ≤ 7182442; omega⟩) hS (fun H locs hP hS => ?_)
  refine lv_iload hx hb dL_law_1179 (lv_at hl 1 rfl) ?_
  refine lv_icmp_eq (tgt := 1186) hx hb dL_law_1181 (by decide) (fun c137 => ?_) (fun c137 => ?_)
  · rw [if_pos c137] at h
    refine lv_iload hx hb dL_law_1186 (lv_at hl 1 rfl) ?_
    refine lv_if_ne (tgt := 1203) hx hb dL_law_1188 (by decide) (fun c138 => ?_) (fun c138 => ?_)
    · rw [if_neg c138] at h
      refine lv_goto (tgt := 2765) hx hb dL_law_1203 (by decide) ?_
      refine lv_iinc (v := (x5 + (5 : Int32))) (lv' := [(5, .int (x5 + (5 : Int32))), (7, .int r135), (6, .int r134), (0, .ref b), (1, .ref (fw_ad E 0 10)), (2, .ref (fw_ad E 0 18)), (3, .ref (fw_ad E 0 27)), (4, .ref (fw_ad E 0 28))]) hx hb dL_law_2765 hl (k := 7) rfl rfl (by decide) rfl (fun ls hl => ?_)
      refine lv_goto (tgt := 28) hx hb dL_law_2768 (by decide) ?_
      exact ih _ _ _ _ H locs ls _ _ h hP hS (lv_sub hl [3, 4, 5, 6, 7, 0] rfl) (by omega) (by omega)
    · rw [if_pos c138] at h
      refine lv_aload_n hx hb dL_law_1191 rfl (lv_at hl 5 rfl) ?_
      refine lv_iconst (v := (0 : Int32)) hx hb dL_law_1192 (by decide) ?_
      refine va_lald (D := fw_D E) hx hb hK (fw_at hP (fw_V0 (f := 27) (by decide) (by decide))) 0 6 rfl rfl (fw_in_e (n := 1) (by decide)) dL_law_1193 ?_
      refine lv_iload hx hb dL_law_1194 (lv_at hl 0 rfl) ?_
      refine lv_i2l (v := r135.toInt64) hx hb dL_law_1196 rfl ?_
      refine W.lcmp hx hb dL_law_1197 ?_
      refine lv_if_eq (tgt := 1203) hx hb dL_law_1198 (by decide) (fun c139 => ?_) (fun c139 => ?_)
      · rw [if_pos c139] at h
        refine lv_goto (tgt := 2765) hx hb dL_law_1203 (by decide) ?_
        refine lv_iinc (v := (x5 + (5 : Int32))) (lv' := [(5, .int (x5 + (5 : Int32))), (7, .int r135), (6, .int r134), (0, .ref b), (1, .ref (fw_ad E 0 10)), (2, .ref (fw_ad E 0 18)), (3, .ref (fw_ad E 0 27)), (4, .ref (fw_ad E 0 28))]) hx hb dL_law_2765 hl (k := 7) rfl rfl (by decide) rfl (fun ls hl => ?_)
        refine lv_goto (tgt := 28) hx hb dL_law_2768 (by decide) ?_
        exact ih _ _ _ _ H locs ls _ _ h hP hS (lv_sub hl [3, 4, 5, 6, 7, 0] rfl) (by omega) (by omega)
      · rw [if_neg c139] at h
        refine lv_iconst (v := (0 : Int32)) hx hb dL_law_1201 (by decide) ?_
        cases h
  · rw [if_neg c137] at h
    refine lv_iconst (v := (0 : Int32)) hx hb dL_law_1184 (by decide) ?_
    cases h
set_option maxHeartbeats 4000000 in
set_option maxRecDepth 100000 in
theorem law_C1206 {p : Program} {l : Launch} {e : Env} {s : State} {m : MethodId} {below : List Frame} {meth : Method} {c : Code} {b L : Nat} {xs : Nat → Int32} {E : fw_E} {Q : State → Prop} (C0 : lc_At p l s m meth c b L xs E) (n : Nat) (K : fw_M → Int64 → UInt64 → Int32 → Option Unit) (ih : ∀ (μ : fw_M) (o : Int64) (d : UInt64) (x5 : Int32) (H : Heap) (locs : List Loc) (ls : Array Slot) (cells slots : Nat), K μ o d x5 = some () → fw_P E o d μ H → va_S (fw_A E) s.heap H locs → lv_has ls 9 [(0, .ref b), (1, .ref (fw_ad E 0 10)), (2, .ref (fw_ad E 0 18)), (3, .ref (fw_ad E 0 27)), (4, .ref (fw_ad E 0 28)), (5, .int x5)] → cells + 4 * n ≤ 603072 → slots + 24 * n ≤ 7182442 → W p l e room_1 s m #[Value.ref b] below meth c H locs cells slots Q (F0 m 28 ls [])) : ∀ (μ : fw_M) (o : Int64) (d : UInt64) (x5 : Int32) (H : Heap) (locs : List Loc) (ls : Array Slot) (cells slots : Nat), f_law_C1206 K xs L μ o d x5 = some () → fw_P E o d μ H → va_S (fw_A E) s.heap H locs → lv_has ls 9 [(0, .ref b), (1, .ref (fw_ad E 0 10)), (2, .ref (fw_ad E 0 18)), (3, .ref (fw_ad E 0 27)), (4, .ref (fw_ad E 0 28)), (5, .int x5)] → cells + 4 * (n + 1) ≤ 603072 → slots + 24 * (n + 1) ≤ 7182442 → W p l e room_1 s m #[Value.ref b] below meth c H locs cells slots Q (F0 m 1206 ls []) := by
  obtain ⟨hx, hb, hml, hown, hU, hK, hSt, hN2, hE, hst, hX, hbl, hbA, hz⟩ := C0
  intro μ o d x5 H locs ls cells slots h hP hS hl hc1 hc2
  unfold f_law_C1206 at h
  refine lv_aload_n hx hb dL_law_1206 rfl (lv_at hl 1 rfl) ?_
  refine lv_aload_n hx hb dL_law_1207 rfl (lv_at hl 0 rfl) ?_
  refine lv_iload hx hb dL_law_1208 (lv_at hl 5 rfl) ?_
  refine lv_iconst (v := (1 : Int32)) hx hb dL_law_1210 (by decide) ?_
  refine lv_iadd hx hb dL_law_1211 ?_
  obtain ⟨g140, h⟩ := fw_g_e h
  refine va_sld hx hb hX hbl hbA hS (fw_in_e g140) dL_law_1212 ?_
  refine lv_aload_n hx hb dL_law_1213 rfl (lv_at hl 3 rfl) ?_
  obtain ⟨μ141, o141, d141, r141, hc141, h⟩ := fw_b4_e h
  refine fw_retL (vx_runSW (As := [.ref (fw_ad E 0 10), .int (xs (x5 + (1 : Int32)).toNatClampNeg), .ref (fw_ad E 0 27)]) (rest := []) ⟨hx, hb, hml, hown, hU⟩ (k_L_inBag l hst hE (xs (x5 + (1 : Int32)).toNatClampNeg) hc141) (vx_cwSW 3 hU (fw_gSW m_722 m_723 m_0 m_724) rfl rfl rfl (by decide +kernel) ⟨(Nat.le_of_ble_eq_true rfl), (Nat.le_of_ble_eq_true rfl)⟩) ⟨fw_blind2, fun U hU9 hW9 => ⟨rfl, fw_pre hK hP hSt hS U hU9 hW9, fw_S2_go hN2 hW9⟩⟩ rfl rfl hl.1 rfl (lv_room (Nat.le_of_ble_eq_true rfl)) dL_law_1214 ⟨by show _ ≤ 603072; omega, by show _ ≤ 7182442; omega⟩) hS (fun H locs hP hS => ?_)
  refine lv_istore (lv' := [(6, .int r141), (0, .ref b), (1, .ref (fw_ad E 0 10)), (2, .ref (fw_ad E 0 18)), (3, .ref (fw_ad E 0 27)), (4, .ref (fw_ad E 0 28)), (5, .int x5)]) hx hb dL_law_1217 hl (by decide) rfl (fun ls hl => ?_)
  refine lv_aload_n hx hb dL_law_1219 rfl (lv_at hl 3 rfl) ?_
  refine lv_aload_n hx hb dL_law_1220 rfl (lv_at hl 1 rfl) ?_
  refine lv_iload hx hb dL_law_1221 (lv_at hl 6 rfl) ?_
  refine lv_iconst (v := (1 : Int32)) hx hb dL_law_1223 (by decide) ?_
  refine lv_iadd hx hb dL_law_1224 ?_
  refine va_sld hx hb hX hbl hbA hS (fw_in_e g140) dL_law_1225 ?_
  obtain ⟨μ142, r142, hc142, h⟩ := fw_b2_e h
  refine fw_ret (va_runV (As := [.int (xs (x5 + (1 : Int32)).toNatClampNeg)]) (rest := []) ⟨hx, hb, hml, hown, hU⟩ (k_X10_inBag l hE (xs (x5 + (1 : Int32)).toNatClampNeg) hc142) (cwV 1 hU (fw_gV m_1388 m_1389 m_1390 m_9 m_1391) rfl rfl rfl (by decide +kernel) ⟨(Nat.le_of_ble_eq_true rfl), (Nat.le_of_ble_eq_true rfl)⟩) ⟨fw_blind, fw_recv hK hP (fw_V0 (f := 18) (by decide) (by decide)) rfl rfl, fun U hU9 hW9 => ⟨rfl, fw_pre hK hP hSt hS U hU9 hW9⟩⟩ rfl rfl hl.1 rfl (lv_room (Nat.le_of_ble_eq_true rfl)) dL_law_1226 ⟨by show _ ≤ 603072; omega, by show _ ≤ 7182442; omega⟩) hS (fun H locs hP hS => ?_)
  refine lv_istore (lv' := [(7, .int r142), (6, .int r141), (0, .ref b), (1, .ref (fw_ad E 0 10)), (2, .ref (fw_ad E 0 18)), (3, .ref (fw_ad E 0 27)), (4, .ref (fw_ad E 0 28)), (5, .int x5)]) hx hb dL_law_1229 hl (by decide) rfl (fun ls hl => ?_)
  refine lv_aload_n hx hb dL_law_1231 rfl (lv_at hl 4 rfl) ?_
  obtain ⟨r143, hc143, h⟩ := fw_b1_e h
  refine fw_ret (va_runV (As := []) (rest := []) ⟨hx, hb, hml, hown, hU⟩ (k_X10_thrown l hE hc143) (cwV 0 hU (fw_gV m_1178 m_1179 m_1180 m_9 m_1181) rfl rfl rfl (by decide +kernel) ⟨(Nat.le_of_ble_eq_true rfl), (Nat.le_of_ble_eq_true rfl)⟩) ⟨fw_blind, fw_recv hK hP (fw_V0 (f := 18) (by decide) (by decide)) rfl rfl, fun U hU9 hW9 => ⟨rfl, fw_pre hK hP hSt hS U hU9 hW9⟩⟩ rfl rfl hl.1 rfl (lv_room (Nat.le_of_ble_eq_true rfl)) dL_law_1232 ⟨by show _ ≤ 603072; omega, by show _ ≤ 7182442; omega⟩) hS (fun H locs hP hS => ?_)
  refine lv_iload hx hb dL_law_1235 (lv_at hl 1 rfl) ?_
  refine lv_icmp_eq (tgt := 1242) hx hb dL_law_1237 (by decide) (fun c144 => ?_) (fun c144 => ?_)
  · rw [if_pos c144] at h
    refine lv_iload hx hb dL_law_1242 (lv_at hl 1 rfl) ?_
    refine lv_if_ne (tgt := 1259) hx hb dL_law_1244 (by decide) (fun c145 => ?_) (fun c145 => ?_)
    · rw [if_neg c145] at h
      refine lv_goto (tgt := 2765) hx hb dL_law_1259 (by decide) ?_
      refine lv_iinc (v := (x5 + (5 : Int32))) (lv' := [(5, .int (x5 + (5 : Int32))), (7, .int r142), (6, .int r141), (0, .ref b), (1, .ref (fw_ad E 0 10)), (2, .ref (fw_ad E 0 18)), (3, .ref (fw_ad E 0 27)), (4, .ref (fw_ad E 0 28))]) hx hb dL_law_2765 hl (k := 7) rfl rfl (by decide) rfl (fun ls hl => ?_)
      refine lv_goto (tgt := 28) hx hb dL_law_2768 (by decide) ?_
      exact ih _ _ _ _ H locs ls _ _ h hP hS (lv_sub hl [3, 4, 5, 6, 7, 0] rfl) (by omega) (by omega)
    · rw [if_pos c145] at h
      refine lv_aload_n hx hb dL_law_1247 rfl (lv_at hl 5 rfl) ?_
      refine lv_iconst (v := (0 : Int32)) hx hb dL_law_1248 (by decide) ?_
      refine va_lald (D := fw_D E) hx hb hK (fw_at hP (fw_V0 (f := 27) (by decide) (by decide))) 0 6 rfl rfl (fw_in_e (n := 1) (by decide)) dL_law_1249 ?_
      refine lv_iload hx hb dL_law_1250 (lv_at hl 0 rfl) ?_
      refine lv_i2l (v := r142.toInt64) hx hb dL_law_1252 rfl ?_
      refine W.lcmp hx hb dL_law_1253 ?_
      refine lv_if_eq (tgt := 1259) hx hb dL_law_1254 (by decide) (fun c146 => ?_) (fun c146 => ?_)
      · rw [if_pos c146] at h
        refine lv_goto (tgt := 2765) hx hb dL_law_1259 (by decide) ?_
        refine lv_iinc (v := (x5 + (5 : Int32))) (lv' := [(5, .int (x5 + (5 : Int32))), (7, .int r142), (6, .int r141), (0, .ref b), (1, .ref (fw_ad E 0 10)), (2, .ref (fw_ad E 0 18)), (3, .ref (fw_ad E 0 27)), (4, .ref (fw_ad E 0 28))]) hx hb dL_law_2765 hl (k := 7) rfl rfl (by decide) rfl (fun ls hl => ?_)
        refine lv_goto (tgt := 28) hx hb dL_law_2768 (by decide) ?_
        exact ih _ _ _ _ H locs ls _ _ h hP hS (lv_sub hl [3, 4, 5, 6, 7, 0] rfl) (by omega) (by omega)
      · rw [if_neg c146] at h
        refine lv_iconst (v := (0 : Int32)) hx hb dL_law_1257 (by decide) ?_
        cases h
  · rw [if_neg c144] at h
    refine lv_iconst (v := (0 : Int32)) hx hb dL_law_1240 (by decide) ?_
    cases h
set_option maxHeartbeats 4000000 in
set_option maxRecDepth 100000 in
theorem law_C1262 {p : Program} {l : Launch} {e : Env} {s : State} {m : MethodId} {below : List Frame} {meth : Method} {c : Code} {b L : Nat} {xs : Nat → Int32} {E : fw_E} {Q : State → Prop} (C0 : lc_At p l s m meth c b L xs E) (n : Nat) (K : fw_M → Int64 → UInt64 → Int32 → Option Unit) (ih : ∀ (μ : fw_M) (o : Int64) (d : UInt64) (x5 : Int32) (H : Heap) (locs : List Loc) (ls : Array Slot) (cells slots : Nat), K μ o d x5 = some () → fw_P E o d μ H → va_S (fw_A E) s.heap H locs → lv_has ls 9 [(0, .ref b), (1, .ref (fw_ad E 0 10)), (2, .ref (fw_ad E 0 18)), (3, .ref (fw_ad E 0 27)), (4, .ref (fw_ad E 0 28)), (5, .int x5)] → cells + 4 * n ≤ 603072 → slots + 24 * n ≤ 7182442 → W p l e room_1 s m #[Value.ref b] below meth c H locs cells slots Q (F0 m 28 ls [])) : ∀ (μ : fw_M) (o : Int64) (d : UInt64) (x5 : Int32) (H : Heap) (locs : List Loc) (ls : Array Slot) (cells slots : Nat), f_law_C1262 K xs L μ o d x5 = some () → fw_P E o d μ H → va_S (fw_A E) s.heap H locs → lv_has ls 9 [(0, .ref b), (1, .ref (fw_ad E 0 10)), (2, .ref (fw_ad E 0 18)), (3, .ref (fw_ad E 0 27)), (4, .ref (fw_ad E 0 28)), (5, .int x5)] → cells + 4 * (n + 1) ≤ 603072 → slots + 24 * (n + 1) ≤ 7182442 → W p l e room_1 s m #[Value.ref b] below meth c H locs cells slots Q (F0 m 1262 ls []) := by
  obtain ⟨hx, hb, hml, hown, hU, hK, hSt, hN2, hE, hst, hX, hbl, hbA, hz⟩ := C0
  intro μ o d x5 H locs ls cells slots h hP hS hl hc1 hc2
  unfold f_law_C1262 at h
  refine lv_aload_n hx hb dL_law_1262 rfl (lv_at hl 1 rfl) ?_
  refine lv_aload_n hx hb dL_law_1263 rfl (lv_at hl 0 rfl) ?_
  refine lv_iload hx hb dL_law_1264 (lv_at hl 5 rfl) ?_
  refine lv_iconst (v := (1 : Int32)) hx hb dL_law_1266 (by decide) ?_
  refine lv_iadd hx hb dL_law_1267 ?_
  obtain ⟨g147, h⟩ := fw_g_e h
  refine va_sld hx hb hX hbl hbA hS (fw_in_e g147) dL_law_1268 ?_
  refine lv_aload_n hx hb dL_law_1269 rfl (lv_at hl 3 rfl) ?_
  obtain ⟨μ148, o148, d148, r148, hc148, h⟩ := fw_b4_e h
  refine fw_retL (vx_runSW (As := [.ref (fw_ad E 0 10), .int (xs (x5 + (1 : Int32)).toNatClampNeg), .ref (fw_ad E 0 27)]) (rest := []) ⟨hx, hb, hml, hown, hU⟩ (k_L_inMachine l hst hE (xs (x5 + (1 : Int32)).toNatClampNeg) hc148) (vx_cwSW 3 hU (fw_gSW m_734 m_735 m_0 m_736) rfl rfl rfl (by decide +kernel) ⟨(Nat.le_of_ble_eq_true rfl), (Nat.le_of_ble_eq_true rfl)⟩) ⟨fw_blind2, fun U hU9 hW9 => ⟨rfl, fw_pre hK hP hSt hS U hU9 hW9, fw_S2_go hN2 hW9⟩⟩ rfl rfl hl.1 rfl (lv_room (Nat.le_of_ble_eq_true rfl)) dL_law_1270 ⟨by show _ ≤ 603072; omega, by show _ ≤ 7182442; omega⟩) hS (fun H locs hP hS => ?_)
  refine lv_istore (lv' := [(6, .int r148), (0, .ref b), (1, .ref (fw_ad E 0 10)), (2, .ref (fw_ad E 0 18)), (3, .ref (fw_ad E 0 27)), (4, .ref (fw_ad E 0 28)), (5, .int x5)]) hx hb dL_law_1273 hl (by decide) rfl (fun ls hl => ?_)
  refine lv_aload_n hx hb dL_law_1275 rfl (lv_at hl 3 rfl) ?_
  refine lv_aload_n hx hb dL_law_1276 rfl (lv_at hl 1 rfl) ?_
  refine lv_iload hx hb dL_law_1277 (lv_at hl 6 rfl) ?_
  refine lv_iconst (v := (1 : Int32)) hx hb dL_law_1279 (by decide) ?_
  refine lv_iadd hx hb dL_law_1280 ?_
  refine va_sld hx hb hX hbl hbA hS (fw_in_e g147) dL_law_1281 ?_
  obtain ⟨μ149, r149, hc149, h⟩ := fw_b2_e h
  refine fw_ret (va_runV (As := [.int (xs (x5 + (1 : Int32)).toNatClampNeg)]) (rest := []) ⟨hx, hb, hml, hown, hU⟩ (k_X10_inMachine l hE (xs (x5 + (1 : Int32)).toNatClampNeg) hc149) (cwV 1 hU (fw_gV m_1392 m_1393 m_1394 m_9 m_1395) rfl rfl rfl (by decide +kernel) ⟨(Nat.le_of_ble_eq_true rfl), (Nat.le_of_ble_eq_true rfl)⟩) ⟨fw_blind, fw_recv hK hP (fw_V0 (f := 18) (by decide) (by decide)) rfl rfl, fun U hU9 hW9 => ⟨rfl, fw_pre hK hP hSt hS U hU9 hW9⟩⟩ rfl rfl hl.1 rfl (lv_room (Nat.le_of_ble_eq_true rfl)) dL_law_1282 ⟨by show _ ≤ 603072; omega, by show _ ≤ 7182442; omega⟩) hS (fun H locs hP hS => ?_)
  refine lv_istore (lv' := [(7, .int r149), (6, .int r148), (0, .ref b), (1, .ref (fw_ad E 0 10)), (2, .ref (fw_ad E 0 18)), (3, .ref (fw_ad E 0 27)), (4, .ref (fw_ad E 0 28)), (5, .int x5)]) hx hb dL_law_1285 hl (by decide) rfl (fun ls hl => ?_)
  refine lv_aload_n hx hb dL_law_1287 rfl (lv_at hl 4 rfl) ?_
  obtain ⟨r150, hc150, h⟩ := fw_b1_e h
  refine fw_ret (va_runV (As := []) (rest := []) ⟨hx, hb, hml, hown, hU⟩ (k_X10_thrown l hE hc150) (cwV 0 hU (fw_gV m_1178 m_1179 m_1180 m_9 m_1181) rfl rfl rfl (by decide +kernel) ⟨(Nat.le_of_ble_eq_true rfl), (Nat.le_of_ble_eq_true rfl)⟩) ⟨fw_blind, fw_recv hK hP (fw_V0 (f := 18) (by decide) (by decide)) rfl rfl, fun U hU9 hW9 => ⟨rfl, fw_pre hK hP hSt hS U hU9 hW9⟩⟩ rfl rfl hl.1 rfl (lv_room (Nat.le_of_ble_eq_true rfl)) dL_law_1288 ⟨by show _ ≤ 603072; omega, by show _ ≤ 7182442; omega⟩) hS (fun H locs hP hS => ?_)
  refine lv_iload hx hb dL_law_1291 (lv_at hl 1 rfl) ?_
  refine lv_icmp_eq (tgt := 1298) hx hb dL_law_1293 (by decide) (fun c151 => ?_) (fun c151 => ?_)
  · rw [if_pos c151] at h
    refine lv_iload hx hb dL_law_1298 (lv_at hl 1 rfl) ?_
    refine lv_if_ne (tgt := 1315) hx hb dL_law_1300 (by decide) (fun c152 => ?_) (fun c152 => ?_)
    · rw [if_neg c152] at h
      refine lv_goto (tgt := 2765) hx hb dL_law_1315 (by decide) ?_
      refine lv_iinc (v := (x5 + (5 : Int32))) (lv' := [(5, .int (x5 + (5 : Int32))), (7, .int r149), (6, .int r148), (0, .ref b), (1, .ref (fw_ad E 0 10)), (2, .ref (fw_ad E 0 18)), (3, .ref (fw_ad E 0 27)), (4, .ref (fw_ad E 0 28))]) hx hb dL_law_2765 hl (k := 7) rfl rfl (by decide) rfl (fun ls hl => ?_)
      refine lv_goto (tgt := 28) hx hb dL_law_2768 (by decide) ?_
      exact ih _ _ _ _ H locs ls _ _ h hP hS (lv_sub hl [3, 4, 5, 6, 7, 0] rfl) (by omega) (by omega)
    · rw [if_pos c152] at h
      refine lv_aload_n hx hb dL_law_1303 rfl (lv_at hl 5 rfl) ?_
      refine lv_iconst (v := (0 : Int32)) hx hb dL_law_1304 (by decide) ?_
      refine va_lald (D := fw_D E) hx hb hK (fw_at hP (fw_V0 (f := 27) (by decide) (by decide))) 0 6 rfl rfl (fw_in_e (n := 1) (by decide)) dL_law_1305 ?_
      refine lv_iload hx hb dL_law_1306 (lv_at hl 0 rfl) ?_
      refine lv_i2l (v := r149.toInt64) hx hb dL_law_1308 rfl ?_
      refine W.lcmp hx hb dL_law_1309 ?_
      refine lv_if_eq (tgt := 1315) hx hb dL_law_1310 (by decide) (fun c153 => ?_) (fun c153 => ?_)
      · rw [if_pos c153] at h
        refine lv_goto (tgt := 2765) hx hb dL_law_1315 (by decide) ?_
        refine lv_iinc (v := (x5 + (5 : Int32))) (lv' := [(5, .int (x5 + (5 : Int32))), (7, .int r149), (6, .int r148), (0, .ref b), (1, .ref (fw_ad E 0 10)), (2, .ref (fw_ad E 0 18)), (3, .ref (fw_ad E 0 27)), (4, .ref (fw_ad E 0 28))]) hx hb dL_law_2765 hl (k := 7) rfl rfl (by decide) rfl (fun ls hl => ?_)
        refine lv_goto (tgt := 28) hx hb dL_law_2768 (by decide) ?_
        exact ih _ _ _ _ H locs ls _ _ h hP hS (lv_sub hl [3, 4, 5, 6, 7, 0] rfl) (by omega) (by omega)
      · rw [if_neg c153] at h
        refine lv_iconst (v := (0 : Int32)) hx hb dL_law_1313 (by decide) ?_
        cases h
  · rw [if_neg c151] at h
    refine lv_iconst (v := (0 : Int32)) hx hb dL_law_1296 (by decide) ?_
    cases h
set_option maxHeartbeats 4000000 in
set_option maxRecDepth 100000 in
theorem law_C1318 {p : Program} {l : Launch} {e : Env} {s : State} {m : MethodId} {below : List Frame} {meth : Method} {c : Code} {b L : Nat} {xs : Nat → Int32} {E : fw_E} {Q : State → Prop} (C0 : lc_At p l s m meth c b L xs E) (n : Nat) (K : fw_M → Int64 → UInt64 → Int32 → Option Unit) (ih : ∀ (μ : fw_M) (o : Int64) (d : UInt64) (x5 : Int32) (H : Heap) (locs : List Loc) (ls : Array Slot) (cells slots : Nat), K μ o d x5 = some () → fw_P E o d μ H → va_S (fw_A E) s.heap H locs → lv_has ls 9 [(0, .ref b), (1, .ref (fw_ad E 0 10)), (2, .ref (fw_ad E 0 18)), (3, .ref (fw_ad E 0 27)), (4, .ref (fw_ad E 0 28)), (5, .int x5)] → cells + 4 * n ≤ 603072 → slots + 24 * n ≤ 7182442 → W p l e room_1 s m #[Value.ref b] below meth c H locs cells slots Q (F0 m 28 ls [])) : ∀ (μ : fw_M) (o : Int64) (d : UInt64) (x5 : Int32) (H : Heap) (locs : List Loc) (ls : Array Slot) (cells slots : Nat), f_law_C1318 K xs L μ o d x5 = some () → fw_P E o d μ H → va_S (fw_A E) s.heap H locs → lv_has ls 9 [(0, .ref b), (1, .ref (fw_ad E 0 10)), (2, .ref (fw_ad E 0 18)), (3, .ref (fw_ad E 0 27)), (4, .ref (fw_ad E 0 28)), (5, .int x5)] → cells + 4 * (n + 1) ≤ 603072 → slots + 24 * (n + 1) ≤ 7182442 → W p l e room_1 s m #[Value.ref b] below meth c H locs cells slots Q (F0 m 1318 ls []) := by
  obtain ⟨hx, hb, hml, hown, hU, hK, hSt, hN2, hE, hst, hX, hbl, hbA, hz⟩ := C0
  intro μ o d x5 H locs ls cells slots h hP hS hl hc1 hc2
  unfold f_law_C1318 at h
  refine lv_aload_n hx hb dL_law_1318 rfl (lv_at hl 1 rfl) ?_
  obtain ⟨r154, hc154, h⟩ := fw_b1_e h
  refine fw_ret (va_runV (As := []) (rest := []) ⟨hx, hb, hml, hown, hU⟩ (k_X9_lost l hE hc154) (cwV 0 hU (fw_gV m_225 m_226 m_227 m_1 m_228) rfl rfl rfl (by decide +kernel) ⟨(Nat.le_of_ble_eq_true rfl), (Nat.le_of_ble_eq_true rfl)⟩) ⟨fw_blind, fw_recv hK hP (fw_V0 (f := 10) (by decide) (by decide)) rfl rfl, fun U hU9 hW9 => ⟨rfl, fw_pre hK hP hSt hS U hU9 hW9⟩⟩ rfl rfl hl.1 rfl (lv_room (Nat.le_of_ble_eq_true rfl)) dL_law_1319 ⟨by show _ ≤ 603072; omega, by show _ ≤ 7182442; omega⟩) hS (fun H locs hP hS => ?_)
  refine lv_aload_n hx hb dL_law_1322 rfl (lv_at hl 2 rfl) ?_
  obtain ⟨μ155, r155, hc155, h⟩ := fw_b2_e h
  refine fw_ret (va_runV (As := []) (rest := [.int r154]) ⟨hx, hb, hml, hown, hU⟩ (k_X10_lost l hE hc155) (cwV 0 hU (fw_gV m_1396 m_1397 m_1398 m_9 m_1399) rfl rfl rfl (by decide +kernel) ⟨(Nat.le_of_ble_eq_true rfl), (Nat.le_of_ble_eq_true rfl)⟩) ⟨fw_blind, fw_recv hK hP (fw_V0 (f := 18) (by decide) (by decide)) rfl rfl, fun U hU9 hW9 => ⟨rfl, fw_pre hK hP hSt hS U hU9 hW9⟩⟩ rfl rfl hl.1 rfl (lv_room (Nat.le_of_ble_eq_true rfl)) dL_law_1323 ⟨by show _ ≤ 603072; omega, by show _ ≤ 7182442; omega⟩) hS (fun H locs hP hS => ?_)
  refine lv_icmp_eq (tgt := 2765) hx hb dL_law_1326 (by decide) (fun c156 => ?_) (fun c156 => ?_)
  · rw [if_pos c156] at h
    refine lv_iinc (v := (x5 + (5 : Int32))) (lv' := [(5, .int (x5 + (5 : Int32))), (0, .ref b), (1, .ref (fw_ad E 0 10)), (2, .ref (fw_ad E 0 18)), (3, .ref (fw_ad E 0 27)), (4, .ref (fw_ad E 0 28))]) hx hb dL_law_2765 hl (k := 5) rfl rfl (by decide) rfl (fun ls hl => ?_)
    refine lv_goto (tgt := 28) hx hb dL_law_2768 (by decide) ?_
    exact ih _ _ _ _ H locs ls _ _ h hP hS (lv_sub hl [1, 2, 3, 4, 5, 0] rfl) (by omega) (by omega)
  · rw [if_neg c156] at h
    refine lv_iconst (v := (0 : Int32)) hx hb dL_law_1329 (by decide) ?_
    cases h
set_option maxHeartbeats 4000000 in
set_option maxRecDepth 100000 in
theorem law_C1331 {p : Program} {l : Launch} {e : Env} {s : State} {m : MethodId} {below : List Frame} {meth : Method} {c : Code} {b L : Nat} {xs : Nat → Int32} {E : fw_E} {Q : State → Prop} (C0 : lc_At p l s m meth c b L xs E) (n : Nat) (K : fw_M → Int64 → UInt64 → Int32 → Option Unit) (ih : ∀ (μ : fw_M) (o : Int64) (d : UInt64) (x5 : Int32) (H : Heap) (locs : List Loc) (ls : Array Slot) (cells slots : Nat), K μ o d x5 = some () → fw_P E o d μ H → va_S (fw_A E) s.heap H locs → lv_has ls 9 [(0, .ref b), (1, .ref (fw_ad E 0 10)), (2, .ref (fw_ad E 0 18)), (3, .ref (fw_ad E 0 27)), (4, .ref (fw_ad E 0 28)), (5, .int x5)] → cells + 4 * n ≤ 603072 → slots + 24 * n ≤ 7182442 → W p l e room_1 s m #[Value.ref b] below meth c H locs cells slots Q (F0 m 28 ls [])) : ∀ (μ : fw_M) (o : Int64) (d : UInt64) (x5 : Int32) (H : Heap) (locs : List Loc) (ls : Array Slot) (cells slots : Nat), f_law_C1331 K xs L μ o d x5 = some () → fw_P E o d μ H → va_S (fw_A E) s.heap H locs → lv_has ls 9 [(0, .ref b), (1, .ref (fw_ad E 0 10)), (2, .ref (fw_ad E 0 18)), (3, .ref (fw_ad E 0 27)), (4, .ref (fw_ad E 0 28)), (5, .int x5)] → cells + 4 * (n + 1) ≤ 603072 → slots + 24 * (n + 1) ≤ 7182442 → W p l e room_1 s m #[Value.ref b] below meth c H locs cells slots Q (F0 m 1331 ls []) := by
  obtain ⟨hx, hb, hml, hown, hU, hK, hSt, hN2, hE, hst, hX, hbl, hbA, hz⟩ := C0
  intro μ o d x5 H locs ls cells slots h hP hS hl hc1 hc2
  unfold f_law_C1331 at h
  refine lv_aload_n hx hb dL_law_1331 rfl (lv_at hl 1 rfl) ?_
  refine lv_aload_n hx hb dL_law_1332 rfl (lv_at hl 0 rfl) ?_
  refine lv_iload hx hb dL_law_1333 (lv_at hl 5 rfl) ?_
  refine lv_iconst (v := (1 : Int32)) hx hb dL_law_1335 (by decide) ?_
  refine lv_iadd hx hb dL_law_1336 ?_
  obtain ⟨g157, h⟩ := fw_g_e h
  refine va_sld hx hb hX hbl hbA hS (fw_in_e g157) dL_law_1337 ?_
  refine lv_aload hx hb dL_law_1338 (lv_at hl 4 rfl) ?_
  obtain ⟨μ158, o158, d158, r158, hc158, h⟩ := fw_b4_e h
  refine fw_retL (vx_runSW (As := [.ref (fw_ad E 0 10), .int (xs (x5 + (1 : Int32)).toNatClampNeg), .ref (fw_ad E 0 28)]) (rest := []) ⟨hx, hb, hml, hown, hU⟩ (k_L_temperature l hst hE (xs (x5 + (1 : Int32)).toNatClampNeg) hc158) (vx_cwSW 3 hU (fw_gSW m_746 m_747 m_0 m_748) rfl rfl rfl (by decide +kernel) ⟨(Nat.le_of_ble_eq_true rfl), (Nat.le_of_ble_eq_true rfl)⟩) ⟨fw_blind2, fun U hU9 hW9 => ⟨rfl, fw_pre hK hP hSt hS U hU9 hW9, fw_S2_go hN2 hW9⟩⟩ rfl rfl hl.1 rfl (lv_room (Nat.le_of_ble_eq_true rfl)) dL_law_1340 ⟨by show _ ≤ 603072; omega, by show _ ≤ 7182442; omega⟩) hS (fun H locs hP hS => ?_)
  refine lv_istore (lv' := [(6, .int r158), (0, .ref b), (1, .ref (fw_ad E 0 10)), (2, .ref (fw_ad E 0 18)), (3, .ref (fw_ad E 0 27)), (4, .ref (fw_ad E 0 28)), (5, .int x5)]) hx hb dL_law_1343 hl (by decide) rfl (fun ls hl => ?_)
  refine lv_aload_n hx hb dL_law_1345 rfl (lv_at hl 3 rfl) ?_
  refine lv_aload_n hx hb dL_law_1346 rfl (lv_at hl 1 rfl) ?_
  refine lv_iload hx hb dL_law_1347 (lv_at hl 6 rfl) ?_
  refine lv_iconst (v := (1 : Int32)) hx hb dL_law_1349 (by decide) ?_
  refine lv_iadd hx hb dL_law_1350 ?_
  refine va_sld hx hb hX hbl hbA hS (fw_in_e g157) dL_law_1351 ?_
  obtain ⟨μ159, r159, hc159, h⟩ := fw_b2_e h
  refine fw_ret (va_runV (As := [.int (xs (x5 + (1 : Int32)).toNatClampNeg)]) (rest := []) ⟨hx, hb, hml, hown, hU⟩ (k_X10_temperature l hE (xs (x5 + (1 : Int32)).toNatClampNeg) hc159) (cwV 1 hU (fw_gV m_1400 m_1401 m_1402 m_9 m_1403) rfl rfl rfl (by decide +kernel) ⟨(Nat.le_of_ble_eq_true rfl), (Nat.le_of_ble_eq_true rfl)⟩) ⟨fw_blind, fw_recv hK hP (fw_V0 (f := 18) (by decide) (by decide)) rfl rfl, fun U hU9 hW9 => ⟨rfl, fw_pre hK hP hSt hS U hU9 hW9⟩⟩ rfl rfl hl.1 rfl (lv_room (Nat.le_of_ble_eq_true rfl)) dL_law_1352 ⟨by show _ ≤ 603072; omega, by show _ ≤ 7182442; omega⟩) hS (fun H locs hP hS => ?_)
  refine lv_fstore (lv' := [(7, .float r159), (6, .int r158), (0, .ref b), (1, .ref (fw_ad E 0 10)), (2, .ref (fw_ad E 0 18)), (3, .ref (fw_ad E 0 27)), (4, .ref (fw_ad E 0 28)), (5, .int x5)]) hx hb dL_law_1355 hl (by decide) rfl (fun ls hl => ?_)
  refine lv_aload_n hx hb dL_law_1357 rfl (lv_at hl 4 rfl) ?_
  obtain ⟨r160, hc160, h⟩ := fw_b1_e h
  refine fw_ret (va_runV (As := []) (rest := []) ⟨hx, hb, hml, hown, hU⟩ (k_X10_thrown l hE hc160) (cwV 0 hU (fw_gV m_1178 m_1179 m_1180 m_9 m_1181) rfl rfl rfl (by decide +kernel) ⟨(Nat.le_of_ble_eq_true rfl), (Nat.le_of_ble_eq_true rfl)⟩) ⟨fw_blind, fw_recv hK hP (fw_V0 (f := 18) (by decide) (by decide)) rfl rfl, fun U hU9 hW9 => ⟨rfl, fw_pre hK hP hSt hS U hU9 hW9⟩⟩ rfl rfl hl.1 rfl (lv_room (Nat.le_of_ble_eq_true rfl)) dL_law_1358 ⟨by show _ ≤ 603072; omega, by show _ ≤ 7182442; omega⟩) hS (fun H locs hP hS => ?_)
  refine lv_iload hx hb dL_law_1361 (lv_at hl 1 rfl) ?_
  refine lv_icmp_eq (tgt := 1368) hx hb dL_law_1363 (by decide) (fun c161 => ?_) (fun c161 => ?_)
  · rw [if_pos c161] at h
    refine lv_iload hx hb dL_law_1368 (lv_at hl 1 rfl) ?_
    refine lv_if_ne (tgt := 1406) hx hb dL_law_1370 (by decide) (fun c162 => ?_) (fun c162 => ?_)
    · rw [if_neg c162] at h
      refine lv_goto (tgt := 2765) hx hb dL_law_1406 (by decide) ?_
      refine lv_iinc (v := (x5 + (5 : Int32))) (lv' := [(5, .int (x5 + (5 : Int32))), (7, .float r159), (6, .int r158), (0, .ref b), (1, .ref (fw_ad E 0 10)), (2, .ref (fw_ad E 0 18)), (3, .ref (fw_ad E 0 27)), (4, .ref (fw_ad E 0 28))]) hx hb dL_law_2765 hl (k := 7) rfl rfl (by decide) rfl (fun ls hl => ?_)
      refine lv_goto (tgt := 28) hx hb dL_law_2768 (by decide) ?_
      exact ih _ _ _ _ H locs ls _ _ h hP hS (lv_sub hl [3, 4, 5, 6, 7, 0] rfl) (by omega) (by omega)
    · rw [if_pos c162] at h
      refine lv_aload hx hb dL_law_1373 (lv_at hl 6 rfl) ?_
      refine lv_iconst (v := (0 : Int32)) hx hb dL_law_1375 (by decide) ?_
      refine va_dald (D := fw_D E) hx hb hK (fw_at hP (fw_V0 (f := 28) (by decide) (by decide))) 0 7 rfl rfl (fw_in_e (n := 1) (by decide)) dL_law_1376 ?_
      refine lv_fload hx hb dL_law_1377 (lv_at hl 0 rfl) ?_
      obtain ⟨g163, h⟩ := fw_g_e h
      refine lv_f2d hx hb dL_law_1379 (fw_f64_e g163) ?_
      refine lv_dcmp (op := CmpOp.l) hx hb dL_law_1380 ?_
      refine lv_if_eq (tgt := 1406) hx hb dL_law_1381 (by decide) (fun c164 => ?_) (fun c164 => ?_)
      · rw [if_pos c164] at h
        refine lv_goto (tgt := 2765) hx hb dL_law_1406 (by decide) ?_
        refine lv_iinc (v := (x5 + (5 : Int32))) (lv' := [(5, .int (x5 + (5 : Int32))), (7, .float r159), (6, .int r158), (0, .ref b), (1, .ref (fw_ad E 0 10)), (2, .ref (fw_ad E 0 18)), (3, .ref (fw_ad E 0 27)), (4, .ref (fw_ad E 0 28))]) hx hb dL_law_2765 hl (k := 7) rfl rfl (by decide) rfl (fun ls hl => ?_)
        refine lv_goto (tgt := 28) hx hb dL_law_2768 (by decide) ?_
        exact ih _ _ _ _ H locs ls _ _ h hP hS (lv_sub hl [3, 4, 5, 6, 7, 0] rfl) (by omega) (by omega)
      · rw [if_neg c164] at h
        refine lv_aload hx hb dL_law_1384 (lv_at hl 6 rfl) ?_
        refine lv_iconst (v := (0 : Int32)) hx hb dL_law_1386 (by decide) ?_
        refine va_dald (D := fw_D E) hx hb hK (fw_at hP (fw_V0 (f := 28) (by decide) (by decide))) 0 7 rfl rfl (fw_in_e (n := 1) (by decide)) dL_law_1387 ?_
        refine lv_aload hx hb dL_law_1388 (lv_at hl 6 rfl) ?_
        refine lv_iconst (v := (0 : Int32)) hx hb dL_law_1390 (by decide) ?_
        refine va_dald (D := fw_D E) hx hb hK (fw_at hP (fw_V0 (f := 28) (by decide) (by decide))) 0 7 rfl rfl (fw_in_e (n := 1) (by decide)) dL_law_1391 ?_
        refine lv_dcmp (op := CmpOp.l) hx hb dL_law_1392 ?_
        refine lv_if_eq (tgt := 1404) hx hb dL_law_1393 (by decide) (fun c165 => ?_) (fun c165 => ?_)
        · rw [if_pos c165] at h
          refine lv_iconst (v := (0 : Int32)) hx hb dL_law_1404 (by decide) ?_
          cases h
        · rw [if_neg c165] at h
          refine lv_fload hx hb dL_law_1396 (lv_at hl 0 rfl) ?_
          refine lv_fload hx hb dL_law_1398 (lv_at hl 0 rfl) ?_
          refine lv_fcmp (op := CmpOp.l) hx hb dL_law_1400 ?_
          refine lv_if_ne (tgt := 1406) hx hb dL_law_1401 (by decide) (fun c166 => ?_) (fun c166 => ?_)
          · rw [if_neg c166] at h
            refine lv_goto (tgt := 2765) hx hb dL_law_1406 (by decide) ?_
            refine lv_iinc (v := (x5 + (5 : Int32))) (lv' := [(5, .int (x5 + (5 : Int32))), (7, .float r159), (6, .int r158), (0, .ref b), (1, .ref (fw_ad E 0 10)), (2, .ref (fw_ad E 0 18)), (3, .ref (fw_ad E 0 27)), (4, .ref (fw_ad E 0 28))]) hx hb dL_law_2765 hl (k := 7) rfl rfl (by decide) rfl (fun ls hl => ?_)
            refine lv_goto (tgt := 28) hx hb dL_law_2768 (by decide) ?_
            exact ih _ _ _ _ H locs ls _ _ h hP hS (lv_sub hl [3, 4, 5, 6, 7, 0] rfl) (by omega) (by omega)
          · rw [if_pos c166] at h
            refine lv_iconst (v := (0 : Int32)) hx hb dL_law_1404 (by decide) ?_
            cases h
  · rw [if_neg c161] at h
    refine lv_iconst (v := (0 : Int32)) hx hb dL_law_1366 (by decide) ?_
    cases h
set_option maxHeartbeats 4000000 in
set_option maxRecDepth 100000 in
theorem law_C1409 {p : Program} {l : Launch} {e : Env} {s : State} {m : MethodId} {below : List Frame} {meth : Method} {c : Code} {b L : Nat} {xs : Nat → Int32} {E : fw_E} {Q : State → Prop} (C0 : lc_At p l s m meth c b L xs E) (n : Nat) (K : fw_M → Int64 → UInt64 → Int32 → Option Unit) (ih : ∀ (μ : fw_M) (o : Int64) (d : UInt64) (x5 : Int32) (H : Heap) (locs : List Loc) (ls : Array Slot) (cells slots : Nat), K μ o d x5 = some () → fw_P E o d μ H → va_S (fw_A E) s.heap H locs → lv_has ls 9 [(0, .ref b), (1, .ref (fw_ad E 0 10)), (2, .ref (fw_ad E 0 18)), (3, .ref (fw_ad E 0 27)), (4, .ref (fw_ad E 0 28)), (5, .int x5)] → cells + 4 * n ≤ 603072 → slots + 24 * n ≤ 7182442 → W p l e room_1 s m #[Value.ref b] below meth c H locs cells slots Q (F0 m 28 ls [])) : ∀ (μ : fw_M) (o : Int64) (d : UInt64) (x5 : Int32) (H : Heap) (locs : List Loc) (ls : Array Slot) (cells slots : Nat), f_law_C1409 K xs L μ o d x5 = some () → fw_P E o d μ H → va_S (fw_A E) s.heap H locs → lv_has ls 9 [(0, .ref b), (1, .ref (fw_ad E 0 10)), (2, .ref (fw_ad E 0 18)), (3, .ref (fw_ad E 0 27)), (4, .ref (fw_ad E 0 28)), (5, .int x5)] → cells + 4 * (n + 1) ≤ 603072 → slots + 24 * (n + 1) ≤ 7182442 → W p l e room_1 s m #[Value.ref b] below meth c H locs cells slots Q (F0 m 1409 ls []) := by
  obtain ⟨hx, hb, hml, hown, hU, hK, hSt, hN2, hE, hst, hX, hbl, hbA, hz⟩ := C0
  intro μ o d x5 H locs ls cells slots h hP hS hl hc1 hc2
  unfold f_law_C1409 at h
  refine lv_aload_n hx hb dL_law_1409 rfl (lv_at hl 1 rfl) ?_
  refine lv_aload_n hx hb dL_law_1410 rfl (lv_at hl 0 rfl) ?_
  refine lv_iload hx hb dL_law_1411 (lv_at hl 5 rfl) ?_
  refine lv_iconst (v := (1 : Int32)) hx hb dL_law_1413 (by decide) ?_
  refine lv_iadd hx hb dL_law_1414 ?_
  obtain ⟨g167, h⟩ := fw_g_e h
  refine va_sld hx hb hX hbl hbA hS (fw_in_e g167) dL_law_1415 ?_
  refine lv_aload_n hx hb dL_law_1416 rfl (lv_at hl 3 rfl) ?_
  obtain ⟨μ168, o168, d168, r168, hc168, h⟩ := fw_b4_e h
  refine fw_retL (vx_runSW (As := [.ref (fw_ad E 0 10), .int (xs (x5 + (1 : Int32)).toNatClampNeg), .ref (fw_ad E 0 27)]) (rest := []) ⟨hx, hb, hml, hown, hU⟩ (k_L_temperatureBits l hst hE (xs (x5 + (1 : Int32)).toNatClampNeg) hc168) (vx_cwSW 3 hU (fw_gSW m_753 m_754 m_0 m_755) rfl rfl rfl (by decide +kernel) ⟨(Nat.le_of_ble_eq_true rfl), (Nat.le_of_ble_eq_true rfl)⟩) ⟨fw_blind2, fun U hU9 hW9 => ⟨rfl, fw_pre hK hP hSt hS U hU9 hW9, fw_S2_go hN2 hW9⟩⟩ rfl rfl hl.1 rfl (lv_room (Nat.le_of_ble_eq_true rfl)) dL_law_1417 ⟨by show _ ≤ 603072; omega, by show _ ≤ 7182442; omega⟩) hS (fun H locs hP hS => ?_)
  refine lv_istore (lv' := [(6, .int r168), (0, .ref b), (1, .ref (fw_ad E 0 10)), (2, .ref (fw_ad E 0 18)), (3, .ref (fw_ad E 0 27)), (4, .ref (fw_ad E 0 28)), (5, .int x5)]) hx hb dL_law_1420 hl (by decide) rfl (fun ls hl => ?_)
  refine lv_aload_n hx hb dL_law_1422 rfl (lv_at hl 3 rfl) ?_
  refine lv_aload_n hx hb dL_law_1423 rfl (lv_at hl 1 rfl) ?_
  refine lv_iload hx hb dL_law_1424 (lv_at hl 6 rfl) ?_
  refine lv_iconst (v := (1 : Int32)) hx hb dL_law_1426 (by decide) ?_
  refine lv_iadd hx hb dL_law_1427 ?_
  refine va_sld hx hb hX hbl hbA hS (fw_in_e g167) dL_law_1428 ?_
  obtain ⟨μ169, r169, hc169, h⟩ := fw_b2_e h
  refine fw_ret (va_runV (As := [.int (xs (x5 + (1 : Int32)).toNatClampNeg)]) (rest := []) ⟨hx, hb, hml, hown, hU⟩ (k_X10_temperatureBits l hE (xs (x5 + (1 : Int32)).toNatClampNeg) hc169) (cwV 1 hU (fw_gV m_1404 m_1405 m_1406 m_9 m_1407) rfl rfl rfl (by decide +kernel) ⟨(Nat.le_of_ble_eq_true rfl), (Nat.le_of_ble_eq_true rfl)⟩) ⟨fw_blind, fw_recv hK hP (fw_V0 (f := 18) (by decide) (by decide)) rfl rfl, fun U hU9 hW9 => ⟨rfl, fw_pre hK hP hSt hS U hU9 hW9⟩⟩ rfl rfl hl.1 rfl (lv_room (Nat.le_of_ble_eq_true rfl)) dL_law_1429 ⟨by show _ ≤ 603072; omega, by show _ ≤ 7182442; omega⟩) hS (fun H locs hP hS => ?_)
  refine lv_istore (lv' := [(7, .int r169), (6, .int r168), (0, .ref b), (1, .ref (fw_ad E 0 10)), (2, .ref (fw_ad E 0 18)), (3, .ref (fw_ad E 0 27)), (4, .ref (fw_ad E 0 28)), (5, .int x5)]) hx hb dL_law_1432 hl (by decide) rfl (fun ls hl => ?_)
  refine lv_aload_n hx hb dL_law_1434 rfl (lv_at hl 4 rfl) ?_
  obtain ⟨r170, hc170, h⟩ := fw_b1_e h
  refine fw_ret (va_runV (As := []) (rest := []) ⟨hx, hb, hml, hown, hU⟩ (k_X10_thrown l hE hc170) (cwV 0 hU (fw_gV m_1178 m_1179 m_1180 m_9 m_1181) rfl rfl rfl (by decide +kernel) ⟨(Nat.le_of_ble_eq_true rfl), (Nat.le_of_ble_eq_true rfl)⟩) ⟨fw_blind, fw_recv hK hP (fw_V0 (f := 18) (by decide) (by decide)) rfl rfl, fun U hU9 hW9 => ⟨rfl, fw_pre hK hP hSt hS U hU9 hW9⟩⟩ rfl rfl hl.1 rfl (lv_room (Nat.le_of_ble_eq_true rfl)) dL_law_1435 ⟨by show _ ≤ 603072; omega, by show _ ≤ 7182442; omega⟩) hS (fun H locs hP hS => ?_)
  refine lv_iload hx hb dL_law_1438 (lv_at hl 1 rfl) ?_
  refine lv_icmp_eq (tgt := 1445) hx hb dL_law_1440 (by decide) (fun c171 => ?_) (fun c171 => ?_)
  · rw [if_pos c171] at h
    refine lv_iload hx hb dL_law_1445 (lv_at hl 1 rfl) ?_
    refine lv_if_ne (tgt := 1462) hx hb dL_law_1447 (by decide) (fun c172 => ?_) (fun c172 => ?_)
    · rw [if_neg c172] at h
      refine lv_goto (tgt := 2765) hx hb dL_law_1462 (by decide) ?_
      refine lv_iinc (v := (x5 + (5 : Int32))) (lv' := [(5, .int (x5 + (5 : Int32))), (7, .int r169), (6, .int r168), (0, .ref b), (1, .ref (fw_ad E 0 10)), (2, .ref (fw_ad E 0 18)), (3, .ref (fw_ad E 0 27)), (4, .ref (fw_ad E 0 28))]) hx hb dL_law_2765 hl (k := 7) rfl rfl (by decide) rfl (fun ls hl => ?_)
      refine lv_goto (tgt := 28) hx hb dL_law_2768 (by decide) ?_
      exact ih _ _ _ _ H locs ls _ _ h hP hS (lv_sub hl [3, 4, 5, 6, 7, 0] rfl) (by omega) (by omega)
    · rw [if_pos c172] at h
      refine lv_aload_n hx hb dL_law_1450 rfl (lv_at hl 5 rfl) ?_
      refine lv_iconst (v := (0 : Int32)) hx hb dL_law_1451 (by decide) ?_
      refine va_lald (D := fw_D E) hx hb hK (fw_at hP (fw_V0 (f := 27) (by decide) (by decide))) 0 6 rfl rfl (fw_in_e (n := 1) (by decide)) dL_law_1452 ?_
      refine lv_iload hx hb dL_law_1453 (lv_at hl 0 rfl) ?_
      refine lv_i2l (v := r169.toInt64) hx hb dL_law_1455 rfl ?_
      refine W.lcmp hx hb dL_law_1456 ?_
      refine lv_if_eq (tgt := 1462) hx hb dL_law_1457 (by decide) (fun c173 => ?_) (fun c173 => ?_)
      · rw [if_pos c173] at h
        refine lv_goto (tgt := 2765) hx hb dL_law_1462 (by decide) ?_
        refine lv_iinc (v := (x5 + (5 : Int32))) (lv' := [(5, .int (x5 + (5 : Int32))), (7, .int r169), (6, .int r168), (0, .ref b), (1, .ref (fw_ad E 0 10)), (2, .ref (fw_ad E 0 18)), (3, .ref (fw_ad E 0 27)), (4, .ref (fw_ad E 0 28))]) hx hb dL_law_2765 hl (k := 7) rfl rfl (by decide) rfl (fun ls hl => ?_)
        refine lv_goto (tgt := 28) hx hb dL_law_2768 (by decide) ?_
        exact ih _ _ _ _ H locs ls _ _ h hP hS (lv_sub hl [3, 4, 5, 6, 7, 0] rfl) (by omega) (by omega)
      · rw [if_neg c173] at h
        refine lv_iconst (v := (0 : Int32)) hx hb dL_law_1460 (by decide) ?_
        cases h
  · rw [if_neg c171] at h
    refine lv_iconst (v := (0 : Int32)) hx hb dL_law_1443 (by decide) ?_
    cases h
set_option maxHeartbeats 4000000 in
set_option maxRecDepth 100000 in
theorem law_C1465 {p : Program} {l : Launch} {e : Env} {s : State} {m : MethodId} {below : List Frame} {meth : Method} {c : Code} {b L : Nat} {xs : Nat → Int32} {E : fw_E} {Q : State → Prop} (C0 : lc_At p l s m meth c b L xs E) (n : Nat) (K : fw_M → Int64 → UInt64 → Int32 → Option Unit) (ih : ∀ (μ : fw_M) (o : Int64) (d : UInt64) (x5 : Int32) (H : Heap) (locs : List Loc) (ls : Array Slot) (cells slots : Nat), K μ o d x5 = some () → fw_P E o d μ H → va_S (fw_A E) s.heap H locs → lv_has ls 9 [(0, .ref b), (1, .ref (fw_ad E 0 10)), (2, .ref (fw_ad E 0 18)), (3, .ref (fw_ad E 0 27)), (4, .ref (fw_ad E 0 28)), (5, .int x5)] → cells + 4 * n ≤ 603072 → slots + 24 * n ≤ 7182442 → W p l e room_1 s m #[Value.ref b] below meth c H locs cells slots Q (F0 m 28 ls [])) : ∀ (μ : fw_M) (o : Int64) (d : UInt64) (x5 : Int32) (H : Heap) (locs : List Loc) (ls : Array Slot) (cells slots : Nat), f_law_C1465 K xs L μ o d x5 = some () → fw_P E o d μ H → va_S (fw_A E) s.heap H locs → lv_has ls 9 [(0, .ref b), (1, .ref (fw_ad E 0 10)), (2, .ref (fw_ad E 0 18)), (3, .ref (fw_ad E 0 27)), (4, .ref (fw_ad E 0 28)), (5, .int x5)] → cells + 4 * (n + 1) ≤ 603072 → slots + 24 * (n + 1) ≤ 7182442 → W p l e room_1 s m #[Value.ref b] below meth c H locs cells slots Q (F0 m 1465 ls []) := by
  obtain ⟨hx, hb, hml, hown, hU, hK, hSt, hN2, hE, hst, hX, hbl, hbA, hz⟩ := C0
  intro μ o d x5 H locs ls cells slots h hP hS hl hc1 hc2
  unfold f_law_C1465 at h
  refine lv_aload_n hx hb dL_law_1465 rfl (lv_at hl 1 rfl) ?_
  refine lv_aload_n hx hb dL_law_1466 rfl (lv_at hl 0 rfl) ?_
  refine lv_iload hx hb dL_law_1467 (lv_at hl 5 rfl) ?_
  refine lv_iconst (v := (1 : Int32)) hx hb dL_law_1469 (by decide) ?_
  refine lv_iadd hx hb dL_law_1470 ?_
  obtain ⟨g174, h⟩ := fw_g_e h
  refine va_sld hx hb hX hbl hbA hS (fw_in_e g174) dL_law_1471 ?_
  refine lv_aload_n hx hb dL_law_1472 rfl (lv_at hl 3 rfl) ?_
  obtain ⟨μ175, o175, d175, r175, hc175, h⟩ := fw_b4_e h
  refine fw_retL (vx_runSW (As := [.ref (fw_ad E 0 10), .int (xs (x5 + (1 : Int32)).toNatClampNeg), .ref (fw_ad E 0 27)]) (rest := []) ⟨hx, hb, hml, hown, hU⟩ (k_L_washableStains l hst hE (xs (x5 + (1 : Int32)).toNatClampNeg) hc175) (vx_cwSW 3 hU (fw_gSW m_764 m_765 m_0 m_766) rfl rfl rfl (by decide +kernel) ⟨(Nat.le_of_ble_eq_true rfl), (Nat.le_of_ble_eq_true rfl)⟩) ⟨fw_blind2, fun U hU9 hW9 => ⟨rfl, fw_pre hK hP hSt hS U hU9 hW9, fw_S2_go hN2 hW9⟩⟩ rfl rfl hl.1 rfl (lv_room (Nat.le_of_ble_eq_true rfl)) dL_law_1473 ⟨by show _ ≤ 603072; omega, by show _ ≤ 7182442; omega⟩) hS (fun H locs hP hS => ?_)
  refine lv_istore (lv' := [(6, .int r175), (0, .ref b), (1, .ref (fw_ad E 0 10)), (2, .ref (fw_ad E 0 18)), (3, .ref (fw_ad E 0 27)), (4, .ref (fw_ad E 0 28)), (5, .int x5)]) hx hb dL_law_1476 hl (by decide) rfl (fun ls hl => ?_)
  refine lv_aload_n hx hb dL_law_1478 rfl (lv_at hl 3 rfl) ?_
  refine lv_aload_n hx hb dL_law_1479 rfl (lv_at hl 1 rfl) ?_
  refine lv_iload hx hb dL_law_1480 (lv_at hl 6 rfl) ?_
  refine lv_iconst (v := (1 : Int32)) hx hb dL_law_1482 (by decide) ?_
  refine lv_iadd hx hb dL_law_1483 ?_
  refine va_sld hx hb hX hbl hbA hS (fw_in_e g174) dL_law_1484 ?_
  obtain ⟨μ176, r176, hc176, h⟩ := fw_b2_e h
  refine fw_ret (va_runV (As := [.int (xs (x5 + (1 : Int32)).toNatClampNeg)]) (rest := []) ⟨hx, hb, hml, hown, hU⟩ (k_X10_washableStains l hE (xs (x5 + (1 : Int32)).toNatClampNeg) hc176) (cwV 1 hU (fw_gV m_1408 m_1409 m_1410 m_9 m_1411) rfl rfl rfl (by decide +kernel) ⟨(Nat.le_of_ble_eq_true rfl), (Nat.le_of_ble_eq_true rfl)⟩) ⟨fw_blind, fw_recv hK hP (fw_V0 (f := 18) (by decide) (by decide)) rfl rfl, fun U hU9 hW9 => ⟨rfl, fw_pre hK hP hSt hS U hU9 hW9⟩⟩ rfl rfl hl.1 rfl (lv_room (Nat.le_of_ble_eq_true rfl)) dL_law_1485 ⟨by show _ ≤ 603072; omega, by show _ ≤ 7182442; omega⟩) hS (fun H locs hP hS => ?_)
  refine lv_istore (lv' := [(7, .int r176), (6, .int r175), (0, .ref b), (1, .ref (fw_ad E 0 10)), (2, .ref (fw_ad E 0 18)), (3, .ref (fw_ad E 0 27)), (4, .ref (fw_ad E 0 28)), (5, .int x5)]) hx hb dL_law_1488 hl (by decide) rfl (fun ls hl => ?_)
  refine lv_aload_n hx hb dL_law_1490 rfl (lv_at hl 4 rfl) ?_
  obtain ⟨r177, hc177, h⟩ := fw_b1_e h
  refine fw_ret (va_runV (As := []) (rest := []) ⟨hx, hb, hml, hown, hU⟩ (k_X10_thrown l hE hc177) (cwV 0 hU (fw_gV m_1178 m_1179 m_1180 m_9 m_1181) rfl rfl rfl (by decide +kernel) ⟨(Nat.le_of_ble_eq_true rfl), (Nat.le_of_ble_eq_true rfl)⟩) ⟨fw_blind, fw_recv hK hP (fw_V0 (f := 18) (by decide) (by decide)) rfl rfl, fun U hU9 hW9 => ⟨rfl, fw_pre hK hP hSt hS U hU9 hW9⟩⟩ rfl rfl hl.1 rfl (lv_room (Nat.le_of_ble_eq_true rfl)) dL_law_1491 ⟨by show _ ≤ 603072; omega, by show _ ≤ 7182442; omega⟩) hS (fun H locs hP hS => ?_)
  refine lv_iload hx hb dL_law_1494 (lv_at hl 1 rfl) ?_
  refine lv_icmp_eq (tgt := 1501) hx hb dL_law_1496 (by decide) (fun c178 => ?_) (fun c178 => ?_)
  · rw [if_pos c178] at h
    refine lv_iload hx hb dL_law_1501 (lv_at hl 1 rfl) ?_
    refine lv_if_ne (tgt := 1518) hx hb dL_law_1503 (by decide) (fun c179 => ?_) (fun c179 => ?_)
    · rw [if_neg c179] at h
      refine lv_goto (tgt := 2765) hx hb dL_law_1518 (by decide) ?_
      refine lv_iinc (v := (x5 + (5 : Int32))) (lv' := [(5, .int (x5 + (5 : Int32))), (7, .int r176), (6, .int r175), (0, .ref b), (1, .ref (fw_ad E 0 10)), (2, .ref (fw_ad E 0 18)), (3, .ref (fw_ad E 0 27)), (4, .ref (fw_ad E 0 28))]) hx hb dL_law_2765 hl (k := 7) rfl rfl (by decide) rfl (fun ls hl => ?_)
      refine lv_goto (tgt := 28) hx hb dL_law_2768 (by decide) ?_
      exact ih _ _ _ _ H locs ls _ _ h hP hS (lv_sub hl [3, 4, 5, 6, 7, 0] rfl) (by omega) (by omega)
    · rw [if_pos c179] at h
      refine lv_aload_n hx hb dL_law_1506 rfl (lv_at hl 5 rfl) ?_
      refine lv_iconst (v := (0 : Int32)) hx hb dL_law_1507 (by decide) ?_
      refine va_lald (D := fw_D E) hx hb hK (fw_at hP (fw_V0 (f := 27) (by decide) (by decide))) 0 6 rfl rfl (fw_in_e (n := 1) (by decide)) dL_law_1508 ?_
      refine lv_iload hx hb dL_law_1509 (lv_at hl 0 rfl) ?_
      refine lv_i2l (v := r176.toInt64) hx hb dL_law_1511 rfl ?_
      refine W.lcmp hx hb dL_law_1512 ?_
      refine lv_if_eq (tgt := 1518) hx hb dL_law_1513 (by decide) (fun c180 => ?_) (fun c180 => ?_)
      · rw [if_pos c180] at h
        refine lv_goto (tgt := 2765) hx hb dL_law_1518 (by decide) ?_
        refine lv_iinc (v := (x5 + (5 : Int32))) (lv' := [(5, .int (x5 + (5 : Int32))), (7, .int r176), (6, .int r175), (0, .ref b), (1, .ref (fw_ad E 0 10)), (2, .ref (fw_ad E 0 18)), (3, .ref (fw_ad E 0 27)), (4, .ref (fw_ad E 0 28))]) hx hb dL_law_2765 hl (k := 7) rfl rfl (by decide) rfl (fun ls hl => ?_)
        refine lv_goto (tgt := 28) hx hb dL_law_2768 (by decide) ?_
        exact ih _ _ _ _ H locs ls _ _ h hP hS (lv_sub hl [3, 4, 5, 6, 7, 0] rfl) (by omega) (by omega)
      · rw [if_neg c180] at h
        refine lv_iconst (v := (0 : Int32)) hx hb dL_law_1516 (by decide) ?_
        cases h
  · rw [if_neg c178] at h
    refine lv_iconst (v := (0 : Int32)) hx hb dL_law_1499 (by decide) ?_
    cases h
set_option maxHeartbeats 4000000 in
set_option maxRecDepth 100000 in
theorem law_C1521 {p : Program} {l : Launch} {e : Env} {s : State} {m : MethodId} {below : List Frame} {meth : Method} {c : Code} {b L : Nat} {xs : Nat → Int32} {E : fw_E} {Q : State → Prop} (C0 : lc_At p l s m meth c b L xs E) (n : Nat) (K : fw_M → Int64 → UInt64 → Int32 → Option Unit) (ih : ∀ (μ : fw_M) (o : Int64) (d : UInt64) (x5 : Int32) (H : Heap) (locs : List Loc) (ls : Array Slot) (cells slots : Nat), K μ o d x5 = some () → fw_P E o d μ H → va_S (fw_A E) s.heap H locs → lv_has ls 9 [(0, .ref b), (1, .ref (fw_ad E 0 10)), (2, .ref (fw_ad E 0 18)), (3, .ref (fw_ad E 0 27)), (4, .ref (fw_ad E 0 28)), (5, .int x5)] → cells + 4 * n ≤ 603072 → slots + 24 * n ≤ 7182442 → W p l e room_1 s m #[Value.ref b] below meth c H locs cells slots Q (F0 m 28 ls [])) : ∀ (μ : fw_M) (o : Int64) (d : UInt64) (x5 : Int32) (H : Heap) (locs : List Loc) (ls : Array Slot) (cells slots : Nat), f_law_C1521 K xs L μ o d x5 = some () → fw_P E o d μ H → va_S (fw_A E) s.heap H locs → lv_has ls 9 [(0, .ref b), (1, .ref (fw_ad E 0 10)), (2, .ref (fw_ad E 0 18)), (3, .ref (fw_ad E 0 27)), (4, .ref (fw_ad E 0 28)), (5, .int x5)] → cells + 4 * (n + 1) ≤ 603072 → slots + 24 * (n + 1) ≤ 7182442 → W p l e room_1 s m #[Value.ref b] below meth c H locs cells slots Q (F0 m 1521 ls []) := by
  obtain ⟨hx, hb, hml, hown, hU, hK, hSt, hN2, hE, hst, hX, hbl, hbA, hz⟩ := C0
  intro μ o d x5 H locs ls cells slots h hP hS hl hc1 hc2
  unfold f_law_C1521 at h
  refine lv_aload_n hx hb dL_law_1521 rfl (lv_at hl 1 rfl) ?_
  refine lv_aload_n hx hb dL_law_1522 rfl (lv_at hl 0 rfl) ?_
  refine lv_iload hx hb dL_law_1523 (lv_at hl 5 rfl) ?_
  refine lv_iconst (v := (1 : Int32)) hx hb dL_law_1525 (by decide) ?_
  refine lv_iadd hx hb dL_law_1526 ?_
  obtain ⟨g181, h⟩ := fw_g_e h
  refine va_sld hx hb hX hbl hbA hS (fw_in_e g181) dL_law_1527 ?_
  refine lv_aload_n hx hb dL_law_1528 rfl (lv_at hl 3 rfl) ?_
  obtain ⟨μ182, o182, d182, r182, hc182, h⟩ := fw_b4_e h
  refine fw_retL (vx_runSW (As := [.ref (fw_ad E 0 10), .int (xs (x5 + (1 : Int32)).toNatClampNeg), .ref (fw_ad E 0 27)]) (rest := []) ⟨hx, hb, hml, hown, hU⟩ (k_L_commonStains l hst hE (xs (x5 + (1 : Int32)).toNatClampNeg) hc182) (vx_cwSW 3 hU (fw_gSW m_772 m_773 m_0 m_774) rfl rfl rfl (by decide +kernel) ⟨(Nat.le_of_ble_eq_true rfl), (Nat.le_of_ble_eq_true rfl)⟩) ⟨fw_blind2, fun U hU9 hW9 => ⟨rfl, fw_pre hK hP hSt hS U hU9 hW9, fw_S2_go hN2 hW9⟩⟩ rfl rfl hl.1 rfl (lv_room (Nat.le_of_ble_eq_true rfl)) dL_law_1529 ⟨by show _ ≤ 603072; omega, by show _ ≤ 7182442; omega⟩) hS (fun H locs hP hS => ?_)
  refine lv_istore (lv' := [(6, .int r182), (0, .ref b), (1, .ref (fw_ad E 0 10)), (2, .ref (fw_ad E 0 18)), (3, .ref (fw_ad E 0 27)), (4, .ref (fw_ad E 0 28)), (5, .int x5)]) hx hb dL_law_1532 hl (by decide) rfl (fun ls hl => ?_)
  refine lv_aload_n hx hb dL_law_1534 rfl (lv_at hl 3 rfl) ?_
  refine lv_aload_n hx hb dL_law_1535 rfl (lv_at hl 1 rfl) ?_
  refine lv_iload hx hb dL_law_1536 (lv_at hl 6 rfl) ?_
  refine lv_iconst (v := (1 : Int32)) hx hb dL_law_1538 (by decide) ?_
  refine lv_iadd hx hb dL_law_1539 ?_
  refine va_sld hx hb hX hbl hbA hS (fw_in_e g181) dL_law_1540 ?_
  obtain ⟨μ183, r183, hc183, h⟩ := fw_b2_e h
  refine fw_ret (va_runV (As := [.int (xs (x5 + (1 : Int32)).toNatClampNeg)]) (rest := []) ⟨hx, hb, hml, hown, hU⟩ (k_X10_commonStains l hE (xs (x5 + (1 : Int32)).toNatClampNeg) hc183) (cwV 1 hU (fw_gV m_1412 m_1413 m_1414 m_9 m_1415) rfl rfl rfl (by decide +kernel) ⟨(Nat.le_of_ble_eq_true rfl), (Nat.le_of_ble_eq_true rfl)⟩) ⟨fw_blind, fw_recv hK hP (fw_V0 (f := 18) (by decide) (by decide)) rfl rfl, fun U hU9 hW9 => ⟨rfl, fw_pre hK hP hSt hS U hU9 hW9⟩⟩ rfl rfl hl.1 rfl (lv_room (Nat.le_of_ble_eq_true rfl)) dL_law_1541 ⟨by show _ ≤ 603072; omega, by show _ ≤ 7182442; omega⟩) hS (fun H locs hP hS => ?_)
  refine lv_istore (lv' := [(7, .int r183), (6, .int r182), (0, .ref b), (1, .ref (fw_ad E 0 10)), (2, .ref (fw_ad E 0 18)), (3, .ref (fw_ad E 0 27)), (4, .ref (fw_ad E 0 28)), (5, .int x5)]) hx hb dL_law_1544 hl (by decide) rfl (fun ls hl => ?_)
  refine lv_aload_n hx hb dL_law_1546 rfl (lv_at hl 4 rfl) ?_
  obtain ⟨r184, hc184, h⟩ := fw_b1_e h
  refine fw_ret (va_runV (As := []) (rest := []) ⟨hx, hb, hml, hown, hU⟩ (k_X10_thrown l hE hc184) (cwV 0 hU (fw_gV m_1178 m_1179 m_1180 m_9 m_1181) rfl rfl rfl (by decide +kernel) ⟨(Nat.le_of_ble_eq_true rfl), (Nat.le_of_ble_eq_true rfl)⟩) ⟨fw_blind, fw_recv hK hP (fw_V0 (f := 18) (by decide) (by decide)) rfl rfl, fun U hU9 hW9 => ⟨rfl, fw_pre hK hP hSt hS U hU9 hW9⟩⟩ rfl rfl hl.1 rfl (lv_room (Nat.le_of_ble_eq_true rfl)) dL_law_1547 ⟨by show _ ≤ 603072; omega, by show _ ≤ 7182442; omega⟩) hS (fun H locs hP hS => ?_)
  refine lv_iload hx hb dL_law_1550 (lv_at hl 1 rfl) ?_
  refine lv_icmp_eq (tgt := 1557) hx hb dL_law_1552 (by decide) (fun c185 => ?_) (fun c185 => ?_)
  · rw [if_pos c185] at h
    refine lv_iload hx hb dL_law_1557 (lv_at hl 1 rfl) ?_
    refine lv_if_ne (tgt := 1574) hx hb dL_law_1559 (by decide) (fun c186 => ?_) (fun c186 => ?_)
    · rw [if_neg c186] at h
      refine lv_goto (tgt := 2765) hx hb dL_law_1574 (by decide) ?_
      refine lv_iinc (v := (x5 + (5 : Int32))) (lv' := [(5, .int (x5 + (5 : Int32))), (7, .int r183), (6, .int r182), (0, .ref b), (1, .ref (fw_ad E 0 10)), (2, .ref (fw_ad E 0 18)), (3, .ref (fw_ad E 0 27)), (4, .ref (fw_ad E 0 28))]) hx hb dL_law_2765 hl (k := 7) rfl rfl (by decide) rfl (fun ls hl => ?_)
      refine lv_goto (tgt := 28) hx hb dL_law_2768 (by decide) ?_
      exact ih _ _ _ _ H locs ls _ _ h hP hS (lv_sub hl [3, 4, 5, 6, 7, 0] rfl) (by omega) (by omega)
    · rw [if_pos c186] at h
      refine lv_aload_n hx hb dL_law_1562 rfl (lv_at hl 5 rfl) ?_
      refine lv_iconst (v := (0 : Int32)) hx hb dL_law_1563 (by decide) ?_
      refine va_lald (D := fw_D E) hx hb hK (fw_at hP (fw_V0 (f := 27) (by decide) (by decide))) 0 6 rfl rfl (fw_in_e (n := 1) (by decide)) dL_law_1564 ?_
      refine lv_iload hx hb dL_law_1565 (lv_at hl 0 rfl) ?_
      refine lv_i2l (v := r183.toInt64) hx hb dL_law_1567 rfl ?_
      refine W.lcmp hx hb dL_law_1568 ?_
      refine lv_if_eq (tgt := 1574) hx hb dL_law_1569 (by decide) (fun c187 => ?_) (fun c187 => ?_)
      · rw [if_pos c187] at h
        refine lv_goto (tgt := 2765) hx hb dL_law_1574 (by decide) ?_
        refine lv_iinc (v := (x5 + (5 : Int32))) (lv' := [(5, .int (x5 + (5 : Int32))), (7, .int r183), (6, .int r182), (0, .ref b), (1, .ref (fw_ad E 0 10)), (2, .ref (fw_ad E 0 18)), (3, .ref (fw_ad E 0 27)), (4, .ref (fw_ad E 0 28))]) hx hb dL_law_2765 hl (k := 7) rfl rfl (by decide) rfl (fun ls hl => ?_)
        refine lv_goto (tgt := 28) hx hb dL_law_2768 (by decide) ?_
        exact ih _ _ _ _ H locs ls _ _ h hP hS (lv_sub hl [3, 4, 5, 6, 7, 0] rfl) (by omega) (by omega)
      · rw [if_neg c187] at h
        refine lv_iconst (v := (0 : Int32)) hx hb dL_law_1572 (by decide) ?_
        cases h
  · rw [if_neg c185] at h
    refine lv_iconst (v := (0 : Int32)) hx hb dL_law_1555 (by decide) ?_
    cases h
