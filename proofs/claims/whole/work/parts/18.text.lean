/-! laid by wip/whole/lay2.py -/
theorem fw_bo_f {x : Int32} (h : fw_bo x = true) : fits .boolean (.int x) = true := by
  simp only [fw_bo, Bool.or_eq_true, decide_eq_true_eq] at h
  rcases h with rfl | rfl <;> rfl
def f_X10_place_J14 (μ : fw_M) (x1 : Int32) (s1 : Int32) : Option (fw_M × Int32) :=
  fw_l (fw_u μ 0 18 0 s1) (fun μ3 =>
  if (μ3 0 18 0) ≤ 0 then
    fw_b1 (f_X10_of μ3 x1 (4 : Int32)) (fun r5 =>
    fw_b1 (f_J0_charAt_5068e μ3 7 r5) (fun r6 =>
    fw_g (fw_ch r6) (some (μ3, r6))))
  else
    some (μ3, (0 : Int32)))
def f_X10_place (μ : fw_M) (x1 : Int32) : Option (fw_M × Int32) :=
  fw_b1 (f_X10_isGarment μ x1) (fun r1 =>
  if r1 = 0 then
    f_X10_place_J14 μ x1 (1 : Int32)
  else
    f_X10_place_J14 μ x1 (0 : Int32))
def f_X10_says_J36 (K2 : fw_M → Int32 → Option (fw_M × Unit)) (k0 : Nat) (μ : fw_M) (x2 : Int32) (s1 : Int32) : Option (fw_M × Unit) :=
  fw_g (fw_bo s1) (
  fw_l (fw_u μ 0 18 19 s1) (fun μ8 =>
  if (μ8 0 18 19) = 0 then
    fw_l (fw_u μ8 0 18 16 ((μ8 0 18 16) + (1 : Int32))) (fun μ10 =>
    K2 μ10 (x2 + (1 : Int32)))
  else
    fw_l (fw_u μ8 0 18 16 ((μ8 0 18 16) + (0 : Int32))) (fun μ11 =>
    K2 μ11 (x2 + (1 : Int32)))))
def f_X10_says_L2 (k0 : Nat) : Nat → fw_M → Int32 → Option (fw_M × Unit)
  | 0, _, _ => none
  | n + 1, μ, x2 =>
    fw_b1 (f_J0_length_8abf5 μ k0) (fun r1 =>
    if r1 ≤ x2 then
      some (μ, ())
    else
      if (μ 0 18 19) = 0 then
        fw_b1 (f_X10_here μ (0 : Int32)) (fun r4 =>
        fw_b1 (f_J0_charAt_5068e μ k0 x2) (fun r5 =>
        if r4 = r5 then
          f_X10_says_J36 (f_X10_says_L2 k0 n) k0 μ x2 (0 : Int32)
        else
          f_X10_says_J36 (f_X10_says_L2 k0 n) k0 μ x2 (1 : Int32)))
      else
        some (μ, ()))
def f_X10_says (μ : fw_M) (k0 : Nat) : Option (fw_M × Unit) :=
  f_X10_says_L2 k0 1000 μ (0 : Int32)
def f_X10_number_J87 (μ : fw_M) (x1 : Int32) (x3 : Int32) (s1 : Int32) : Option (fw_M × Unit) :=
  fw_g (fw_bo s1) (
  fw_l (fw_u μ 0 18 19 s1) (fun μ12 =>
  fw_g (fw_in (((4 : Int32) * (μ12 0 18 18)) + x1) 300) (
  fw_l (fw_u μ12 0 24 (((4 : Int32) * (μ12 0 18 18)) + x1).toNatClampNeg x3) (fun μ14 =>
  some (μ14, ())))))
def f_X10_number_J82 (μ : fw_M) (x1 : Int32) (x3 : Int32) : Option (fw_M × Unit) :=
  f_X10_number_J87 μ x1 x3 (1 : Int32)
def f_X10_number_J69 (μ : fw_M) (x1 : Int32) (x3 : Int32) (x4 : Int32) : Option (fw_M × Unit) :=
  if (μ 0 18 19) = 0 then
    if x4 = 0 then
      f_X10_number_J82 μ x1 x3
    else
      f_X10_number_J87 μ x1 x3 (0 : Int32)
  else
    f_X10_number_J82 μ x1 x3
def f_X10_number_L11 : Nat → fw_M → Int32 → Int32 → Int32 → Int32 → Option (fw_M × Unit)
  | 0, _, _, _, _, _ => none
  | n + 1, μ, x1, x2, x3, x4 =>
    if (μ 0 18 19) = 0 then
      if x2 ≤ x4 then
        f_X10_number_J69 μ x1 x3 x4
      else
        fw_b1 (f_X10_here μ (0 : Int32)) (fun r4 =>
        fw_b1 (f_X10_in μ r4 (48 : Int32) (57 : Int32)) (fun r5 =>
        if r5 = 0 then
          f_X10_number_J69 μ x1 x3 x4
        else
          fw_b1 (f_X10_here μ (0 : Int32)) (fun r7 =>
          fw_l (fw_u μ 0 18 16 ((μ 0 18 16) + (1 : Int32))) (fun μ8 =>
          f_X10_number_L11 n μ8 x1 x2 ((((10 : Int32) * x3) + r7) - (48 : Int32)) (x4 + (1 : Int32))))))
    else
      f_X10_number_J69 μ x1 x3 x4
def f_X10_number (μ : fw_M) (x1 : Int32) (x2 : Int32) : Option (fw_M × Unit) :=
  fw_b2 (f_X10_says μ 6) (fun μ1 r1 =>
  f_X10_number_L11 1000 μ1 x1 x2 (0 : Int32) (0 : Int32))
def f_X10_one (μ : fw_M) (k0 : Nat) (x1 : Int32) (x3 : Int32) (x4 : Int32) : Option (fw_M × Unit) :=
  fw_g (fw_in ((4 : Int32) * (μ 0 18 18)) 300) (
  fw_l (fw_u μ 0 24 ((4 : Int32) * (μ 0 18 18)).toNatClampNeg x1) (fun μ2 =>
  fw_b2 (f_X10_says μ2 k0) (fun μ3 r3 =>
  fw_b2 (f_X10_number μ3 (1 : Int32) x3) (fun μ4 r4 =>
  if x4 ≤ 0 then
    some (μ4, ())
  else
    fw_b2 (f_X10_number μ4 (2 : Int32) x4) (fun μ6 r6 =>
    some (μ6, ()))))))
def f_X10_readsOne_J101 (μ : fw_M) : Option (fw_M × Unit) :=
  fw_b2 (f_X10_number μ (3 : Int32) (3 : Int32)) (fun μ16 r16 =>
  fw_l (fw_u μ16 0 18 18 ((μ16 0 18 18) + (1 : Int32))) (fun μ17 =>
  some (μ17, ())))
def f_X10_readsOne_J162 (μ : fw_M) : Option (fw_M × Unit) :=
  fw_l (fw_u μ 0 18 19 (1 : Int32)) (fun μ14 =>
  fw_l (fw_u μ14 0 18 18 ((μ14 0 18 18) + (1 : Int32))) (fun μ15 =>
  some (μ15, ())))
def f_X10_readsOne (μ : fw_M) : Option (fw_M × Unit) :=
  fw_b1 (f_X10_here μ (0 : Int32)) (fun r1 =>
  if r1 = (104 : Int32) then
    fw_b2 (f_X10_one μ 4 (104 : Int32) (1 : Int32) (2 : Int32)) (fun μ2 r2 =>
    fw_l (fw_u μ2 0 18 18 ((μ2 0 18 18) + (1 : Int32))) (fun μ3 =>
    some (μ3, ())))
  else
    if r1 = (105 : Int32) then
      f_X10_readsOne_J162 μ
    else
      if r1 = (106 : Int32) then
        f_X10_readsOne_J162 μ
      else
        if r1 = (107 : Int32) then
          f_X10_readsOne_J162 μ
        else
          if r1 = (108 : Int32) then
            fw_b2 (f_X10_one μ 2 (108 : Int32) (2 : Int32) (1 : Int32)) (fun μ4 r4 =>
            fw_l (fw_u μ4 0 18 18 ((μ4 0 18 18) + (1 : Int32))) (fun μ5 =>
            some (μ5, ())))
          else
            if r1 = (109 : Int32) then
              f_X10_readsOne_J162 μ
            else
              if r1 = (110 : Int32) then
                f_X10_readsOne_J162 μ
              else
                if r1 = (111 : Int32) then
                  fw_b2 (f_X10_one μ 3 (111 : Int32) (2 : Int32) (0 : Int32)) (fun μ6 r6 =>
                  fw_l (fw_u μ6 0 18 18 ((μ6 0 18 18) + (1 : Int32))) (fun μ7 =>
                  some (μ7, ())))
                else
                  if r1 = (112 : Int32) then
                    f_X10_readsOne_J162 μ
                  else
                    if r1 = (113 : Int32) then
                      f_X10_readsOne_J162 μ
                    else
                      if r1 = (114 : Int32) then
                        fw_b2 (f_X10_one μ 5 (114 : Int32) (1 : Int32) (0 : Int32)) (fun μ8 r8 =>
                        fw_l (fw_u μ8 0 18 18 ((μ8 0 18 18) + (1 : Int32))) (fun μ9 =>
                        some (μ9, ())))
                      else
                        if r1 = (115 : Int32) then
                          fw_b1 (f_X10_here μ (1 : Int32)) (fun r10 =>
                          if r10 = (104 : Int32) then
                            fw_b2 (f_X10_one μ 1 (103 : Int32) (1 : Int32) (1 : Int32)) (fun μ12 r12 =>
                            f_X10_readsOne_J101 μ12)
                          else
                            fw_b2 (f_X10_one μ 0 (115 : Int32) (1 : Int32) (1 : Int32)) (fun μ13 r13 =>
                            f_X10_readsOne_J101 μ13))
                        else
                          f_X10_readsOne_J162 μ)
def f_X10_does (μ : fw_M) (x1 : Int32) : Option (fw_M × Int32) :=
  fw_g (fw_in (((4 : Int32) * x1) + (1 : Int32)) 300) (
  fw_g (fw_in (((4 : Int32) * x1) + (2 : Int32)) 300) (
  fw_g (fw_in ((4 : Int32) * x1) 300) (
  if (μ 0 24 ((4 : Int32) * x1).toNatClampNeg) = (103 : Int32) then
    fw_g (fw_in (((4 : Int32) * x1) + (3 : Int32)) 300) (
    fw_b2 (f_X10_brings μ (μ 0 24 (((4 : Int32) * x1) + (1 : Int32)).toNatClampNeg) (0 : Int32) (μ 0 24 (((4 : Int32) * x1) + (2 : Int32)).toNatClampNeg) (μ 0 24 (((4 : Int32) * x1) + (3 : Int32)).toNatClampNeg)) (fun μ5 r5 =>
    some (μ5, r5)))
  else
    if (μ 0 24 ((4 : Int32) * x1).toNatClampNeg) = (104 : Int32) then
      fw_b2 (f_X10_heats μ (μ 0 24 (((4 : Int32) * x1) + (1 : Int32)).toNatClampNeg) ((2 : Int32) * (μ 0 24 (((4 : Int32) * x1) + (2 : Int32)).toNatClampNeg))) (fun μ6 r6 =>
      some (μ6, r6))
    else
      if (μ 0 24 ((4 : Int32) * x1).toNatClampNeg) = (105 : Int32) then
        fw_b2 (f_X10_washesAll μ (μ 0 24 (((4 : Int32) * x1) + (1 : Int32)).toNatClampNeg)) (fun μ7 r7 =>
        some (μ7, r7))
      else
        if (μ 0 24 ((4 : Int32) * x1).toNatClampNeg) = (106 : Int32) then
          fw_b2 (f_X10_washesAll μ (μ 0 24 (((4 : Int32) * x1) + (1 : Int32)).toNatClampNeg)) (fun μ8 r8 =>
          some (μ8, r8))
        else
          if (μ 0 24 ((4 : Int32) * x1).toNatClampNeg) = (107 : Int32) then
            fw_b2 (f_X10_washesAll μ (μ 0 24 (((4 : Int32) * x1) + (1 : Int32)).toNatClampNeg)) (fun μ9 r9 =>
            some (μ9, r9))
          else
            if (μ 0 24 ((4 : Int32) * x1).toNatClampNeg) = (108 : Int32) then
              fw_b2 (f_X10_loads μ (μ 0 24 (((4 : Int32) * x1) + (1 : Int32)).toNatClampNeg) (μ 0 24 (((4 : Int32) * x1) + (2 : Int32)).toNatClampNeg)) (fun μ10 r10 =>
              some (μ10, r10))
            else
              if (μ 0 24 ((4 : Int32) * x1).toNatClampNeg) = (109 : Int32) then
                fw_b2 (f_X10_washesAll μ (μ 0 24 (((4 : Int32) * x1) + (1 : Int32)).toNatClampNeg)) (fun μ11 r11 =>
                some (μ11, r11))
              else
                if (μ 0 24 ((4 : Int32) * x1).toNatClampNeg) = (110 : Int32) then
                  fw_b2 (f_X10_washesAll μ (μ 0 24 (((4 : Int32) * x1) + (1 : Int32)).toNatClampNeg)) (fun μ12 r12 =>
                  some (μ12, r12))
                else
                  if (μ 0 24 ((4 : Int32) * x1).toNatClampNeg) = (111 : Int32) then
                    fw_b2 (f_X10_takes μ (μ 0 24 (((4 : Int32) * x1) + (1 : Int32)).toNatClampNeg)) (fun μ13 r13 =>
                    some (μ13, r13))
                  else
                    if (μ 0 24 ((4 : Int32) * x1).toNatClampNeg) = (112 : Int32) then
                      fw_b2 (f_X10_washesAll μ (μ 0 24 (((4 : Int32) * x1) + (1 : Int32)).toNatClampNeg)) (fun μ14 r14 =>
                      some (μ14, r14))
                    else
                      if (μ 0 24 ((4 : Int32) * x1).toNatClampNeg) = (113 : Int32) then
                        fw_b2 (f_X10_washesAll μ (μ 0 24 (((4 : Int32) * x1) + (1 : Int32)).toNatClampNeg)) (fun μ15 r15 =>
                        some (μ15, r15))
                      else
                        if (μ 0 24 ((4 : Int32) * x1).toNatClampNeg) = (114 : Int32) then
                          fw_b2 (f_X10_washesAll μ (μ 0 24 (((4 : Int32) * x1) + (1 : Int32)).toNatClampNeg)) (fun μ16 r16 =>
                          some (μ16, r16))
                        else
                          if (μ 0 24 ((4 : Int32) * x1).toNatClampNeg) = (115 : Int32) then
                            fw_g (fw_in (((4 : Int32) * x1) + (3 : Int32)) 300) (
                            fw_b2 (f_X10_brings μ (μ 0 24 (((4 : Int32) * x1) + (1 : Int32)).toNatClampNeg) (1 : Int32) (μ 0 24 (((4 : Int32) * x1) + (2 : Int32)).toNatClampNeg) (μ 0 24 (((4 : Int32) * x1) + (3 : Int32)).toNatClampNeg)) (fun μ18 r18 =>
                            some (μ18, r18)))
                          else
                            fw_b2 (f_X10_washesAll μ (μ 0 24 (((4 : Int32) * x1) + (1 : Int32)).toNatClampNeg)) (fun μ19 r19 =>
                            some (μ19, r19)))))
def f_X10_runCommands_L125 : Nat → fw_M → Int32 → Int32 → Option (fw_M × Int32)
  | 0, _, _, _ => none
  | n + 1, μ, x1, x2 =>
    if (104 : Int32) ≤ x2 then
      fw_l (fw_u μ 0 18 14 x1) (fun μ24 =>
      fw_b2 (f_X10_fails μ24 (2 : Int32)) (fun μ25 r25 =>
      some (μ25, r25)))
    else
      fw_g (fw_in x2 104) (
      fw_l (fw_u μ 0 19 x2.toNatClampNeg (μ 0 20 x2.toNatClampNeg)) (fun μ27 =>
      f_X10_runCommands_L125 n μ27 x1 (x2 + (1 : Int32))))
def f_X10_runCommands_L104 : Nat → fw_M → Int32 → Option (fw_M × Int32)
  | 0, _, _ => none
  | n + 1, μ, x1 =>
    if (μ 0 18 18) ≤ x1 then
      fw_b2 (f_X10_changed μ (μ 0 18 18)) (fun μ20 r20 =>
      some (μ20, r20))
    else
      fw_b2 (f_X10_does μ x1) (fun μ21 r21 =>
      if r21 = 0 then
        f_X10_runCommands_L104 n μ21 (x1 + (1 : Int32))
      else
        f_X10_runCommands_L125 1000 μ21 x1 (0 : Int32))
def f_X10_runCommands_J70 (μ : fw_M) : Option (fw_M × Int32) :=
  if (μ 0 18 19) = 0 then
    if (μ 0 18 17) ≤ (μ 0 18 16) then
      f_X10_runCommands_L104 1000 μ (0 : Int32)
    else
      fw_l (fw_u μ 0 18 13 (μ 0 18 16)) (fun μ15 =>
      fw_b2 (f_X10_fails μ15 (1 : Int32)) (fun μ16 r16 =>
      some (μ16, r16)))
  else
    fw_l (fw_u μ 0 18 13 (μ 0 18 16)) (fun μ17 =>
    fw_b2 (f_X10_fails μ17 (1 : Int32)) (fun μ18 r18 =>
    some (μ18, r18)))
def f_X10_runCommands_L36 : Nat → fw_M → Option (fw_M × Int32)
  | 0, _ => none
  | n + 1, μ =>
    if (μ 0 18 19) = 0 then
      fw_b1 (f_X10_here μ (0 : Int32)) (fun r9 =>
      if r9 = (59 : Int32) then
        fw_l (fw_u μ 0 18 16 ((μ 0 18 16) + (1 : Int32))) (fun μ11 =>
        fw_b2 (f_X10_readsOne μ11) (fun μ12 r12 =>
        f_X10_runCommands_L36 n μ12))
      else
        f_X10_runCommands_J70 μ)
    else
      f_X10_runCommands_J70 μ
def f_X10_runCommands (μ : fw_M) : Option (fw_M × Int32) :=
  fw_b2 (f_X10_remembers μ) (fun μ1 r1 =>
  fw_l (fw_u μ1 0 18 16 (0 : Int32)) (fun μ2 =>
  fw_l (fw_u μ2 0 18 17 (μ2 0 18 11)) (fun μ3 =>
  fw_l (fw_u μ3 0 18 11 (0 : Int32)) (fun μ4 =>
  fw_l (fw_u μ4 0 18 18 (0 : Int32)) (fun μ5 =>
  fw_l (fw_u μ5 0 18 19 (0 : Int32)) (fun μ6 =>
  fw_b2 (f_X10_readsOne μ6) (fun μ7 r7 =>
  f_X10_runCommands_L36 1000 μ7)))))))
set_option maxHeartbeats 4000000 in
set_option maxRecDepth 100000 in
theorem k_X10_place (l : Launch) {E : fw_E} {o : Int64} {d : UInt64} (hE : fw_ok E) {μ μ' : fw_M} (x1 : Int32) {r : Int32} (h : f_X10_place μ x1 = some (μ', r)) : Met l yX10_place (fw_ws yX10_place cX10_place 2 (some .char)) ({ frames := 4, cells := 0, slots := 0, locals := 85 } : Room) (va_Pc [.ref (fw_ad E 0 18), .int x1] (fw_Pre E o d μ)) (fw_Q E o d (some (.int r)) μ') 0 0 (fw_A E) := by
  refine Met.ofW (cc := cX10_place) (maxL := 2) (ret := (some .char)) (by decide) rfl ?_
  intro p e s m args below meth c s₁ B hml hv
  obtain ⟨ha, hK, hP, hSt⟩ := hv
  have hx := B.exec
  have hb := B.bytes
  have hr := B.returns
  have hts := atoms_spec (ws := fw_ws yX10_place cX10_place 2 (some .char)) B.pre
  have hU : ∀ w ∈ fw_U, w.before args s = true := fun w hw => hts w (List.mem_cons_of_mem _ hw)
  have hown : s.vm.findClass RX10 = some m.cls := findClass_of_methodNamed B.named
  have hlocks := B.notSynchronized
  have J14 : ∀ (μ : fw_M) (x1 : Int32) (s1 : Int32) (H : Heap) (locs : List Loc) (ls : Array Slot), f_X10_place_J14 μ x1 s1 = some (μ', r) → fw_P E o d μ H → va_S (fw_A E) s.heap H locs → lv_has ls 2 [(0, .ref (fw_ad E 0 18)), (1, .int x1)] → W p l e (headSpec (fw_ws yX10_place cX10_place 2 (some .char)) ({ frames := 4, cells := 0, slots := 0, locals := 85 } : Room)).room s m args below meth c H locs 0 0 (MQ below (fw_Q E o d (some (.int r)) μ') args s 0 0 (fw_A E)) (F0 m 14 ls [.int s1, .ref (fw_ad E 0 18)]) := by
    intro μ x1 s1 H locs ls h hP hS hl
    unfold f_X10_place_J14 at h
    refine fw_put (ci := 8) (v := .int s1) (ty := .int) (C := RX10) (T := TX10) (N := 20) hx hb hU inU10 tyX10 tyX10_ok nmX10 hown hK hP hE hS (fw_V0 (f := 18) (by decide) (by decide)) rfl rfl 0 (by decide) (hU (Cond.fieldLink RX10 41 "LaundryServiceModel" "thrown" "I") m_1117) (fun _ h9 => h9) rfl (by decide +kernel) rfl rfl (Nat.le_of_ble_eq_true rfl) 0 s1 (by rw [fw_u_c]; rfl) dX10_place_14 (fun H locs hP hS => ?_)
    obtain ⟨μ3, eμ3, h⟩ := fw_l_e h
    rw [← eμ3] at hP
    refine lv_aload_n hx hb dX10_place_17 rfl (lv_at hl 0 rfl) ?_
    refine va_get (D := fw_D E) (ci := 8) (v := .int (μ3 0 18 0)) (C := RX10) (T := TX10) (N := 20) hx hb hU inU10 hown hK (fw_at hP (fw_V0 (f := 18) (by decide) (by decide))) 0 rfl rfl 0 (by decide) (hU (Cond.fieldLink RX10 41 "LaundryServiceModel" "thrown" "I") m_1117) (fun _ h9 => h9) rfl dX10_place_18 ?_
    refine lv_if_le (tgt := 28) hx hb dX10_place_21 (by decide) (fun c4 => ?_) (fun c4 => ?_)
    · rw [if_pos c4] at h
      refine va_ldcS hx hb hown (hSt.2.2.2.1 _ (List.mem_of_getElem? (i := 22) rfl)) dX10_place_28 ?_
      refine lv_aload_n hx hb dX10_place_30 rfl (lv_at hl 0 rfl) ?_
      refine lv_iload_n hx hb dX10_place_31 rfl (lv_at hl 1 rfl) ?_
      refine lv_iconst (v := (4 : Int32)) hx hb dX10_place_32 (by decide) ?_
      obtain ⟨r5, hc5, h⟩ := fw_b1_e h
      refine fw_ret (va_runV (As := [.int x1, .int (4 : Int32)]) (rest := [.ref (fw_x E 5 7)]) ⟨hx, hb, hml, hown, hU⟩ (k_X10_of l hE x1 (4 : Int32) hc5) (cwV 2 hU (fw_gV m_1235 m_1237 ms_20 m_9 m_1238) rfl rfl rfl (by decide +kernel) ⟨(Nat.le_of_ble_eq_true rfl), (Nat.le_of_ble_eq_true rfl)⟩) ⟨fw_blind, fw_recv hK hP (fw_V0 (f := 18) (by decide) (by decide)) rfl rfl, fun U hU9 hW9 => ⟨rfl, fw_pre hK hP hSt hS U hU9 hW9⟩⟩ rfl rfl hl.1 rfl (lv_room (Nat.le_of_ble_eq_true rfl)) dX10_place_33 ⟨Nat.zero_le _, Nat.zero_le _⟩) hS (fun H locs hP hS => ?_)
      obtain ⟨r6, hc6, h⟩ := fw_b1_e h
      refine fw_ret (va_runV (As := [.int r5]) (rest := []) ⟨hx, hb, hml, hown, hU⟩ (k_J0_charAt_5068e l hE (by decide) r5 hc6) (cwV 1 hU (fw_gV m_1362 m_958 m_959 m_15 m_960) rfl rfl rfl (by decide +kernel) ⟨(Nat.le_of_ble_eq_true rfl), (Nat.le_of_ble_eq_true rfl)⟩) ⟨fw_blind, fw_srecv hSt hS (by decide), fun U hU9 hW9 => ⟨rfl, fw_pre hK hP hSt hS U hU9 hW9⟩⟩ rfl rfl hl.1 rfl (lv_room (Nat.le_of_ble_eq_true rfl)) dX10_place_36 ⟨Nat.zero_le _, Nat.zero_le _⟩) hS (fun H locs hP hS => ?_)
      obtain ⟨g7, h⟩ := fw_g_e h
      exact W.zret (v := r6) hx hb hr (fw_ch_e g7) (fw_ew (mk := Value.int) h hP hS) hS.2.2 dX10_place_39
    · rw [if_neg c4] at h
      refine lv_iconst (v := (0 : Int32)) hx hb dX10_place_24 (by decide) ?_
      refine lv_goto (tgt := 39) hx hb dX10_place_25 (by decide) ?_
      exact W.zret (v := (0 : Int32)) hx hb hr rfl (fw_ew (mk := Value.int) h hP hS) hS.2.2 dX10_place_39
  have EN : ∀ (H : Heap) (locs : List Loc) (ls : Array Slot), fw_P E o d μ H → va_S (fw_A E) s.heap H locs → lv_has ls 2 [(0, .ref (fw_ad E 0 18)), (1, .int x1)] → W p l e (headSpec (fw_ws yX10_place cX10_place 2 (some .char)) ({ frames := 4, cells := 0, slots := 0, locals := 85 } : Room)).room s m args below meth c H locs 0 0 (MQ below (fw_Q E o d (some (.int r)) μ') args s 0 0 (fw_A E)) (F0 m 0 ls []) := by
    intro H locs ls hP hS hl
    unfold f_X10_place at h
    refine lv_aload_n hx hb dX10_place_0 rfl (lv_at hl 0 rfl) ?_
    refine lv_aload_n hx hb dX10_place_1 rfl (lv_at hl 0 rfl) ?_
    refine lv_iload_n hx hb dX10_place_2 rfl (lv_at hl 1 rfl) ?_
    obtain ⟨r1, hc1, h⟩ := fw_b1_e h
    refine fw_ret (va_runV (As := [.int x1]) (rest := [.ref (fw_ad E 0 18)]) ⟨hx, hb, hml, hown, hU⟩ (k_X10_isGarment l hE x1 hc1) (cwV 1 hU (fw_gV m_1228 m_1230 ms_19 m_9 m_1231) rfl rfl rfl (by decide +kernel) ⟨(Nat.le_of_ble_eq_true rfl), (Nat.le_of_ble_eq_true rfl)⟩) ⟨fw_blind, fw_recv hK hP (fw_V0 (f := 18) (by decide) (by decide)) rfl rfl, fun U hU9 hW9 => ⟨rfl, fw_pre hK hP hSt hS U hU9 hW9⟩⟩ rfl rfl hl.1 rfl (lv_room (Nat.le_of_ble_eq_true rfl)) dX10_place_3 ⟨Nat.zero_le _, Nat.zero_le _⟩) hS (fun H locs hP hS => ?_)
    refine lv_if_eq (tgt := 13) hx hb dX10_place_6 (by decide) (fun c2 => ?_) (fun c2 => ?_)
    · rw [if_pos c2] at h
      refine lv_iconst (v := (1 : Int32)) hx hb dX10_place_13 (by decide) ?_
      exact J14 μ x1 (1 : Int32) H locs ls h hP hS (lv_sub hl [0, 1] rfl)
    · rw [if_neg c2] at h
      refine lv_iconst (v := (0 : Int32)) hx hb dX10_place_9 (by decide) ?_
      refine lv_goto (tgt := 14) hx hb dX10_place_10 (by decide) ?_
      exact J14 μ x1 (0 : Int32) H locs ls h hP hS (lv_sub hl [0, 1] rfl)
  subst ha
  have hl := lv_entry ([.ref (fw_ad E 0 18), .int x1]) (n := 2) (Nat.le_of_ble_eq_true rfl)
  rw [lg_entry_eq]
  generalize (lg_sl ([.ref (fw_ad E 0 18), .int x1]) ++ List.replicate (2 - (lg_sl ([.ref (fw_ad E 0 18), .int x1])).length) Slot.unset).toArray = ls at hl ⊢
  exact EN s.heap [] ls hP va_S.rf hl
set_option maxHeartbeats 4000000 in
set_option maxRecDepth 100000 in
theorem k_X10_says (l : Launch) {E : fw_E} {o : Int64} {d : UInt64} (hE : fw_ok E) {μ μ' : fw_M} {k0 : Nat} (hk0 : k0 < 8) {r : Unit} (h : f_X10_says μ k0 = some (μ', r)) : Met l yX10_says (fw_ws yX10_says cX10_says 3 none) ({ frames := 4, cells := 0, slots := 0, locals := 85 } : Room) (va_Pc [.ref (fw_ad E 0 18), .ref (fw_x E 5 k0)] (fw_Pre E o d μ)) (fw_Q E o d none μ') 0 0 (fw_A E) := by
  refine Met.ofW (cc := cX10_says) (maxL := 3) (ret := none) (by decide) rfl ?_
  intro p e s m args below meth c s₁ B hml hv
  obtain ⟨ha, hK, hP, hSt⟩ := hv
  have hx := B.exec
  have hb := B.bytes
  have hr := B.returns
  have hts := atoms_spec (ws := fw_ws yX10_says cX10_says 3 none) B.pre
  have hU : ∀ w ∈ fw_U, w.before args s = true := fun w hw => hts w (List.mem_cons_of_mem _ hw)
  have hown : s.vm.findClass RX10 = some m.cls := findClass_of_methodNamed B.named
  have hlocks := B.notSynchronized
  have L2 : ∀ (n : Nat) (μ : fw_M) (x2 : Int32) (H : Heap) (locs : List Loc) (ls : Array Slot), f_X10_says_L2 k0 n μ x2 = some (μ', r) → fw_P E o d μ H → va_S (fw_A E) s.heap H locs → lv_has ls 3 [(0, .ref (fw_ad E 0 18)), (1, .ref (fw_x E 5 k0)), (2, .int x2)] → W p l e (headSpec (fw_ws yX10_says cX10_says 3 none) ({ frames := 4, cells := 0, slots := 0, locals := 85 } : Room)).room s m args below meth c H locs 0 0 (MQ below (fw_Q E o d none μ') args s 0 0 (fw_A E)) (F0 m 2 ls []) := by
    intro n2
    induction n2 with
    | zero => intro μ x2 H locs ls h; rw [f_X10_says_L2] at h; cases h
    | succ n2 ih2 =>
      have J36 : ∀ (μ : fw_M) (x2 : Int32) (s1 : Int32) (H : Heap) (locs : List Loc) (ls : Array Slot), f_X10_says_J36 (f_X10_says_L2 k0 n2) k0 μ x2 s1 = some (μ', r) → fw_P E o d μ H → va_S (fw_A E) s.heap H locs → lv_has ls 3 [(0, .ref (fw_ad E 0 18)), (1, .ref (fw_x E 5 k0)), (2, .int x2)] → W p l e (headSpec (fw_ws yX10_says cX10_says 3 none) ({ frames := 4, cells := 0, slots := 0, locals := 85 } : Room)).room s m args below meth c H locs 0 0 (MQ below (fw_Q E o d none μ') args s 0 0 (fw_A E)) (F0 m 36 ls [.int s1, .ref (fw_ad E 0 18)]) := by
        intro μ x2 s1 H locs ls h hP hS hl
        unfold f_X10_says_J36 at h
        obtain ⟨g7, h⟩ := fw_g_e h
        refine fw_put (ci := 8) (v := .int s1) (ty := .boolean) (C := RX10) (T := TX10) (N := 20) hx hb hU inU10 tyX10 tyX10_ok nmX10 hown hK hP hE hS (fw_V0 (f := 18) (by decide) (by decide)) rfl rfl 19 (by decide) (hU (Cond.fieldLink RX10 200 "LaundryServiceModel" "isWrong" "Z") m_1136) (fun _ h9 => h9) rfl (by decide +kernel) (fw_bo_e g7) (fw_bo_f g7) (Nat.le_of_ble_eq_true rfl) 19 s1 (by rw [fw_u_c]; rfl) dX10_says_36 (fun H locs hP hS => ?_)
        obtain ⟨μ8, eμ8, h⟩ := fw_l_e h
        rw [← eμ8] at hP
        refine lv_aload_n hx hb dX10_says_39 rfl (lv_at hl 0 rfl) ?_
        refine lv_dup hx hb dX10_says_40 rfl ?_
        refine va_get (D := fw_D E) (ci := 8) (v := .int (μ8 0 18 16)) (C := RX10) (T := TX10) (N := 20) hx hb hU inU10 hown hK (fw_at hP (fw_V0 (f := 18) (by decide) (by decide))) 0 rfl rfl 16 (by decide) (hU (Cond.fieldLink RX10 191 "LaundryServiceModel" "spot" "I") m_1133) (fun _ h9 => h9) rfl dX10_says_41 ?_
        refine lv_aload_n hx hb dX10_says_44 rfl (lv_at hl 0 rfl) ?_
        refine va_get (D := fw_D E) (ci := 8) (v := .int (μ8 0 18 19)) (C := RX10) (T := TX10) (N := 20) hx hb hU inU10 hown hK (fw_at hP (fw_V0 (f := 18) (by decide) (by decide))) 0 rfl rfl 19 (by decide) (hU (Cond.fieldLink RX10 200 "LaundryServiceModel" "isWrong" "Z") m_1136) (fun _ h9 => h9) rfl dX10_says_45 ?_
        refine lv_if_eq (tgt := 55) hx hb dX10_says_48 (by decide) (fun c9 => ?_) (fun c9 => ?_)
        · rw [if_pos c9] at h
          refine lv_iconst (v := (1 : Int32)) hx hb dX10_says_55 (by decide) ?_
          refine lv_iadd hx hb dX10_says_56 ?_
          refine fw_put (ci := 8) (v := .int ((μ8 0 18 16) + (1 : Int32))) (ty := .int) (C := RX10) (T := TX10) (N := 20) hx hb hU inU10 tyX10 tyX10_ok nmX10 hown hK hP hE hS (fw_V0 (f := 18) (by decide) (by decide)) rfl rfl 16 (by decide) (hU (Cond.fieldLink RX10 191 "LaundryServiceModel" "spot" "I") m_1133) (fun _ h9 => h9) rfl (by decide +kernel) rfl rfl (Nat.le_of_ble_eq_true rfl) 16 ((μ8 0 18 16) + (1 : Int32)) (by rw [fw_u_c]; rfl) dX10_says_57 (fun H locs hP hS => ?_)
          obtain ⟨μ10, eμ10, h⟩ := fw_l_e h
          rw [← eμ10] at hP
          refine lv_iinc (v := (x2 + (1 : Int32))) (lv' := [(2, .int (x2 + (1 : Int32))), (0, .ref (fw_ad E 0 18)), (1, .ref (fw_x E 5 k0))]) hx hb dX10_says_60 hl (k := 2) rfl rfl (by decide) rfl (fun ls hl => ?_)
          refine lv_goto (tgt := 2) hx hb dX10_says_63 (by decide) ?_
          exact ih2 μ10 (x2 + (1 : Int32)) H locs ls h hP hS (lv_sub hl [1, 2, 0] rfl)
        · rw [if_neg c9] at h
          refine lv_iconst (v := (0 : Int32)) hx hb dX10_says_51 (by decide) ?_
          refine lv_goto (tgt := 56) hx hb dX10_says_52 (by decide) ?_
          refine lv_iadd hx hb dX10_says_56 ?_
          refine fw_put (ci := 8) (v := .int ((μ8 0 18 16) + (0 : Int32))) (ty := .int) (C := RX10) (T := TX10) (N := 20) hx hb hU inU10 tyX10 tyX10_ok nmX10 hown hK hP hE hS (fw_V0 (f := 18) (by decide) (by decide)) rfl rfl 16 (by decide) (hU (Cond.fieldLink RX10 191 "LaundryServiceModel" "spot" "I") m_1133) (fun _ h9 => h9) rfl (by decide +kernel) rfl rfl (Nat.le_of_ble_eq_true rfl) 16 ((μ8 0 18 16) + (0 : Int32)) (by rw [fw_u_c]; rfl) dX10_says_57 (fun H locs hP hS => ?_)
          obtain ⟨μ11, eμ11, h⟩ := fw_l_e h
          rw [← eμ11] at hP
          refine lv_iinc (v := (x2 + (1 : Int32))) (lv' := [(2, .int (x2 + (1 : Int32))), (0, .ref (fw_ad E 0 18)), (1, .ref (fw_x E 5 k0))]) hx hb dX10_says_60 hl (k := 2) rfl rfl (by decide) rfl (fun ls hl => ?_)
          refine lv_goto (tgt := 2) hx hb dX10_says_63 (by decide) ?_
          exact ih2 μ11 (x2 + (1 : Int32)) H locs ls h hP hS (lv_sub hl [1, 2, 0] rfl)
      intro μ x2 H locs ls h hP hS hl
      rw [f_X10_says_L2] at h
      refine lv_iload_n hx hb dX10_says_2 rfl (lv_at hl 2 rfl) ?_
      refine lv_aload_n hx hb dX10_says_3 rfl (lv_at hl 1 rfl) ?_
      obtain ⟨r1, hc1, h⟩ := fw_b1_e h
      refine fw_ret (va_runV (As := []) (rest := [.int x2]) ⟨hx, hb, hml, hown, hU⟩ (k_J0_length_8abf5 l hE hk0 hc1) (cwV 0 hU (fw_gV m_1506 m_948 m_949 m_15 m_950) rfl rfl rfl (by decide +kernel) ⟨(Nat.le_of_ble_eq_true rfl), (Nat.le_of_ble_eq_true rfl)⟩) ⟨fw_blind, fw_srecv hSt hS hk0, fun U hU9 hW9 => ⟨rfl, fw_pre hK hP hSt hS U hU9 hW9⟩⟩ rfl rfl hl.1 rfl (lv_room (Nat.le_of_ble_eq_true rfl)) dX10_says_4 ⟨Nat.zero_le _, Nat.zero_le _⟩) hS (fun H locs hP hS => ?_)
      refine lv_icmp_ge (tgt := 66) hx hb dX10_says_7 (by decide) (fun c2 => ?_) (fun c2 => ?_)
      · rw [if_pos c2] at h
        exact W.vret hx hb hr (fw_ev h hP hS) hS.2.2 dX10_says_66
      · rw [if_neg c2] at h
        refine lv_aload_n hx hb dX10_says_10 rfl (lv_at hl 0 rfl) ?_
        refine va_get (D := fw_D E) (ci := 8) (v := .int (μ 0 18 19)) (C := RX10) (T := TX10) (N := 20) hx hb hU inU10 hown hK (fw_at hP (fw_V0 (f := 18) (by decide) (by decide))) 0 rfl rfl 19 (by decide) (hU (Cond.fieldLink RX10 200 "LaundryServiceModel" "isWrong" "Z") m_1136) (fun _ h9 => h9) rfl dX10_says_11 ?_
        refine lv_if_ne (tgt := 66) hx hb dX10_says_14 (by decide) (fun c3 => ?_) (fun c3 => ?_)
        · rw [if_neg c3] at h
          exact W.vret hx hb hr (fw_ev h hP hS) hS.2.2 dX10_says_66
        · rw [if_pos c3] at h
          refine lv_aload_n hx hb dX10_says_17 rfl (lv_at hl 0 rfl) ?_
          refine lv_aload_n hx hb dX10_says_18 rfl (lv_at hl 0 rfl) ?_
          refine lv_iconst (v := (0 : Int32)) hx hb dX10_says_19 (by decide) ?_
          obtain ⟨r4, hc4, h⟩ := fw_b1_e h
          refine fw_ret (va_runV (As := [.int (0 : Int32)]) (rest := [.ref (fw_ad E 0 18)]) ⟨hx, hb, hml, hown, hU⟩ (k_X10_here l hE (0 : Int32) hc4) (cwV 1 hU (fw_gV m_1493 m_1495 ms_41 m_9 m_1496) rfl rfl rfl (by decide +kernel) ⟨(Nat.le_of_ble_eq_true rfl), (Nat.le_of_ble_eq_true rfl)⟩) ⟨fw_blind, fw_recv hK hP (fw_V0 (f := 18) (by decide) (by decide)) rfl rfl, fun U hU9 hW9 => ⟨rfl, fw_pre hK hP hSt hS U hU9 hW9⟩⟩ rfl rfl hl.1 rfl (lv_room (Nat.le_of_ble_eq_true rfl)) dX10_says_20 ⟨Nat.zero_le _, Nat.zero_le _⟩) hS (fun H locs hP hS => ?_)
          refine lv_aload_n hx hb dX10_says_23 rfl (lv_at hl 1 rfl) ?_
          refine lv_iload_n hx hb dX10_says_24 rfl (lv_at hl 2 rfl) ?_
          obtain ⟨r5, hc5, h⟩ := fw_b1_e h
          refine fw_ret (va_runV (As := [.int x2]) (rest := [.int r4, .ref (fw_ad E 0 18)]) ⟨hx, hb, hml, hown, hU⟩ (k_J0_charAt_5068e l hE hk0 x2 hc5) (cwV 1 hU (fw_gV m_1362 m_958 m_959 m_15 m_960) rfl rfl rfl (by decide +kernel) ⟨(Nat.le_of_ble_eq_true rfl), (Nat.le_of_ble_eq_true rfl)⟩) ⟨fw_blind, fw_srecv hSt hS hk0, fun U hU9 hW9 => ⟨rfl, fw_pre hK hP hSt hS U hU9 hW9⟩⟩ rfl rfl hl.1 rfl (lv_room (Nat.le_of_ble_eq_true rfl)) dX10_says_25 ⟨Nat.zero_le _, Nat.zero_le _⟩) hS (fun H locs hP hS => ?_)
          refine lv_icmp_eq (tgt := 35) hx hb dX10_says_28 (by decide) (fun c6 => ?_) (fun c6 => ?_)
          · rw [if_pos c6] at h
            refine lv_iconst (v := (0 : Int32)) hx hb dX10_says_35 (by decide) ?_
            exact J36 μ x2 (0 : Int32) H locs ls h hP hS (lv_sub hl [0, 1, 2] rfl)
          · rw [if_neg c6] at h
            refine lv_iconst (v := (1 : Int32)) hx hb dX10_says_31 (by decide) ?_
            refine lv_goto (tgt := 36) hx hb dX10_says_32 (by decide) ?_
            exact J36 μ x2 (1 : Int32) H locs ls h hP hS (lv_sub hl [0, 1, 2] rfl)
  have EN : ∀ (H : Heap) (locs : List Loc) (ls : Array Slot), fw_P E o d μ H → va_S (fw_A E) s.heap H locs → lv_has ls 3 [(0, .ref (fw_ad E 0 18)), (1, .ref (fw_x E 5 k0))] → W p l e (headSpec (fw_ws yX10_says cX10_says 3 none) ({ frames := 4, cells := 0, slots := 0, locals := 85 } : Room)).room s m args below meth c H locs 0 0 (MQ below (fw_Q E o d none μ') args s 0 0 (fw_A E)) (F0 m 0 ls []) := by
    intro H locs ls hP hS hl
    unfold f_X10_says at h
    refine lv_iconst (v := (0 : Int32)) hx hb dX10_says_0 (by decide) ?_
    refine lv_istore_n (lv' := [(2, .int (0 : Int32)), (0, .ref (fw_ad E 0 18)), (1, .ref (fw_x E 5 k0))]) hx hb dX10_says_1 rfl hl (by decide) rfl (fun ls hl => ?_)
    exact L2 1000 μ (0 : Int32) H locs ls h hP hS (lv_sub hl [1, 2, 0] rfl)
  subst ha
  have hl := lv_entry ([.ref (fw_ad E 0 18), .ref (fw_x E 5 k0)]) (n := 3) (Nat.le_of_ble_eq_true rfl)
  rw [lg_entry_eq]
  generalize (lg_sl ([.ref (fw_ad E 0 18), .ref (fw_x E 5 k0)]) ++ List.replicate (3 - (lg_sl ([.ref (fw_ad E 0 18), .ref (fw_x E 5 k0)])).length) Slot.unset).toArray = ls at hl ⊢
  exact EN s.heap [] ls hP va_S.rf hl
set_option maxHeartbeats 4000000 in
set_option maxRecDepth 100000 in
theorem k_X10_number (l : Launch) {E : fw_E} {o : Int64} {d : UInt64} (hE : fw_ok E) {μ μ' : fw_M} (x1 : Int32) (x2 : Int32) {r : Unit} (h : f_X10_number μ x1 x2 = some (μ', r)) : Met l yX10_number (fw_ws yX10_number cX10_number 5 none) ({ frames := 5, cells := 0, slots := 0, locals := 107 } : Room) (va_Pc [.ref (fw_ad E 0 18), .int x1, .int x2] (fw_Pre E o d μ)) (fw_Q E o d none μ') 0 0 (fw_A E) := by
  refine Met.ofW (cc := cX10_number) (maxL := 5) (ret := none) (by decide) rfl ?_
  intro p e s m args below meth c s₁ B hml hv
  obtain ⟨ha, hK, hP, hSt⟩ := hv
  have hx := B.exec
  have hb := B.bytes
  have hr := B.returns
  have hts := atoms_spec (ws := fw_ws yX10_number cX10_number 5 none) B.pre
  have hU : ∀ w ∈ fw_U, w.before args s = true := fun w hw => hts w (List.mem_cons_of_mem _ hw)
  have hown : s.vm.findClass RX10 = some m.cls := findClass_of_methodNamed B.named
  have hlocks := B.notSynchronized
  have J87 : ∀ (μ : fw_M) (x1 : Int32) (x3 : Int32) (s1 : Int32) (H : Heap) (locs : List Loc) (ls : Array Slot), f_X10_number_J87 μ x1 x3 s1 = some (μ', r) → fw_P E o d μ H → va_S (fw_A E) s.heap H locs → lv_has ls 5 [(0, .ref (fw_ad E 0 18)), (1, .int x1), (3, .int x3)] → W p l e (headSpec (fw_ws yX10_number cX10_number 5 none) ({ frames := 5, cells := 0, slots := 0, locals := 107 } : Room)).room s m args below meth c H locs 0 0 (MQ below (fw_Q E o d none μ') args s 0 0 (fw_A E)) (F0 m 87 ls [.int s1, .ref (fw_ad E 0 18)]) := by
    intro μ x1 x3 s1 H locs ls h hP hS hl
    unfold f_X10_number_J87 at h
    obtain ⟨g11, h⟩ := fw_g_e h
    refine fw_put (ci := 8) (v := .int s1) (ty := .boolean) (C := RX10) (T := TX10) (N := 20) hx hb hU inU10 tyX10 tyX10_ok nmX10 hown hK hP hE hS (fw_V0 (f := 18) (by decide) (by decide)) rfl rfl 19 (by decide) (hU (Cond.fieldLink RX10 200 "LaundryServiceModel" "isWrong" "Z") m_1136) (fun _ h9 => h9) rfl (by decide +kernel) (fw_bo_e g11) (fw_bo_f g11) (Nat.le_of_ble_eq_true rfl) 19 s1 (by rw [fw_u_c]; rfl) dX10_number_87 (fun H locs hP hS => ?_)
    obtain ⟨μ12, eμ12, h⟩ := fw_l_e h
    rw [← eμ12] at hP
    refine lv_aload_n hx hb dX10_number_90 rfl (lv_at hl 0 rfl) ?_
    refine va_get (D := fw_D E) (ci := 8) (v := .ref (fw_ad E 0 24)) (C := RX10) (T := TX10) (N := 20) hx hb hU inU10 hown hK (fw_at hP (fw_V0 (f := 18) (by decide) (by decide))) 0 rfl rfl 8 (by decide) (hU (Cond.fieldLink RX10 25 "LaundryServiceModel" "told" "[I") m_1125) (fun _ h9 => h9) rfl dX10_number_91 ?_
    refine lv_iconst (v := (4 : Int32)) hx hb dX10_number_94 (by decide) ?_
    refine lv_aload_n hx hb dX10_number_95 rfl (lv_at hl 0 rfl) ?_
    refine va_get (D := fw_D E) (ci := 8) (v := .int (μ12 0 18 18)) (C := RX10) (T := TX10) (N := 20) hx hb hU inU10 hown hK (fw_at hP (fw_V0 (f := 18) (by decide) (by decide))) 0 rfl rfl 18 (by decide) (hU (Cond.fieldLink RX10 213 "LaundryServiceModel" "commands" "I") m_1135) (fun _ h9 => h9) rfl dX10_number_96 ?_
    refine lv_imul hx hb dX10_number_99 ?_
    refine lv_iload_n hx hb dX10_number_100 rfl (lv_at hl 1 rfl) ?_
    refine lv_iadd hx hb dX10_number_101 ?_
    refine lv_iload_n hx hb dX10_number_102 rfl (lv_at hl 2 rfl) ?_
    obtain ⟨g13, h⟩ := fw_g_e h
    refine fw_iast (n := 300) hx hb hK hP hE hS (fw_V0 (f := 24) (by decide) (by decide)) (fun _ => rfl) (fw_in_e g13) dX10_number_103 (fun H locs hP hS => ?_)
    obtain ⟨μ14, eμ14, h⟩ := fw_l_e h
    rw [← eμ14] at hP
    exact W.vret hx hb hr (fw_ev h hP hS) hS.2.2 dX10_number_104
  have J82 : ∀ (μ : fw_M) (x1 : Int32) (x3 : Int32) (H : Heap) (locs : List Loc) (ls : Array Slot), f_X10_number_J82 μ x1 x3 = some (μ', r) → fw_P E o d μ H → va_S (fw_A E) s.heap H locs → lv_has ls 5 [(0, .ref (fw_ad E 0 18)), (1, .int x1), (3, .int x3)] → W p l e (headSpec (fw_ws yX10_number cX10_number 5 none) ({ frames := 5, cells := 0, slots := 0, locals := 107 } : Room)).room s m args below meth c H locs 0 0 (MQ below (fw_Q E o d none μ') args s 0 0 (fw_A E)) (F0 m 82 ls [.ref (fw_ad E 0 18)]) := by
    intro μ x1 x3 H locs ls h hP hS hl
    unfold f_X10_number_J82 at h
    refine lv_iconst (v := (1 : Int32)) hx hb dX10_number_82 (by decide) ?_
    refine lv_goto (tgt := 87) hx hb dX10_number_83 (by decide) ?_
    exact J87 μ x1 x3 (1 : Int32) H locs ls h hP hS (lv_sub hl [0, 1, 2] rfl)
  have J69 : ∀ (μ : fw_M) (x1 : Int32) (x3 : Int32) (x4 : Int32) (H : Heap) (locs : List Loc) (ls : Array Slot), f_X10_number_J69 μ x1 x3 x4 = some (μ', r) → fw_P E o d μ H → va_S (fw_A E) s.heap H locs → lv_has ls 5 [(0, .ref (fw_ad E 0 18)), (1, .int x1), (3, .int x3), (4, .int x4)] → W p l e (headSpec (fw_ws yX10_number cX10_number 5 none) ({ frames := 5, cells := 0, slots := 0, locals := 107 } : Room)).room s m args below meth c H locs 0 0 (MQ below (fw_Q E o d none μ') args s 0 0 (fw_A E)) (F0 m 69 ls []) := by
    intro μ x1 x3 x4 H locs ls h hP hS hl
    unfold f_X10_number_J69 at h
    refine lv_aload_n hx hb dX10_number_69 rfl (lv_at hl 0 rfl) ?_
    refine lv_aload_n hx hb dX10_number_70 rfl (lv_at hl 0 rfl) ?_
    refine va_get (D := fw_D E) (ci := 8) (v := .int (μ 0 18 19)) (C := RX10) (T := TX10) (N := 20) hx hb hU inU10 hown hK (fw_at hP (fw_V0 (f := 18) (by decide) (by decide))) 0 rfl rfl 19 (by decide) (hU (Cond.fieldLink RX10 200 "LaundryServiceModel" "isWrong" "Z") m_1136) (fun _ h9 => h9) rfl dX10_number_71 ?_
    refine lv_if_ne (tgt := 82) hx hb dX10_number_74 (by decide) (fun c9 => ?_) (fun c9 => ?_)
    · rw [if_neg c9] at h
      exact J82 μ x1 x3 H locs ls h hP hS (lv_sub hl [0, 1, 2] rfl)
    · rw [if_pos c9] at h
      refine lv_iload hx hb dX10_number_77 (lv_at hl 3 rfl) ?_
      refine lv_if_ne (tgt := 86) hx hb dX10_number_79 (by decide) (fun c10 => ?_) (fun c10 => ?_)
      · rw [if_neg c10] at h
        refine lv_iconst (v := (0 : Int32)) hx hb dX10_number_86 (by decide) ?_
        exact J87 μ x1 x3 (0 : Int32) H locs ls h hP hS (lv_sub hl [0, 1, 2] rfl)
      · rw [if_pos c10] at h
        exact J82 μ x1 x3 H locs ls h hP hS (lv_sub hl [0, 1, 2] rfl)
  have L11 : ∀ (n : Nat) (μ : fw_M) (x1 : Int32) (x2 : Int32) (x3 : Int32) (x4 : Int32) (H : Heap) (locs : List Loc) (ls : Array Slot), f_X10_number_L11 n μ x1 x2 x3 x4 = some (μ', r) → fw_P E o d μ H → va_S (fw_A E) s.heap H locs → lv_has ls 5 [(0, .ref (fw_ad E 0 18)), (1, .int x1), (2, .int x2), (3, .int x3), (4, .int x4)] → W p l e (headSpec (fw_ws yX10_number cX10_number 5 none) ({ frames := 5, cells := 0, slots := 0, locals := 107 } : Room)).room s m args below meth c H locs 0 0 (MQ below (fw_Q E o d none μ') args s 0 0 (fw_A E)) (F0 m 11 ls []) := by
    intro n11
    induction n11 with
    | zero => intro μ x1 x2 x3 x4 H locs ls h; rw [f_X10_number_L11] at h; cases h
    | succ n11 ih11 =>
      intro μ x1 x2 x3 x4 H locs ls h hP hS hl
      rw [f_X10_number_L11] at h
      refine lv_aload_n hx hb dX10_number_11 rfl (lv_at hl 0 rfl) ?_
      refine va_get (D := fw_D E) (ci := 8) (v := .int (μ 0 18 19)) (C := RX10) (T := TX10) (N := 20) hx hb hU inU10 hown hK (fw_at hP (fw_V0 (f := 18) (by decide) (by decide))) 0 rfl rfl 19 (by decide) (hU (Cond.fieldLink RX10 200 "LaundryServiceModel" "isWrong" "Z") m_1136) (fun _ h9 => h9) rfl dX10_number_12 ?_
      refine lv_if_ne (tgt := 69) hx hb dX10_number_15 (by decide) (fun c2 => ?_) (fun c2 => ?_)
      · rw [if_neg c2] at h
        exact J69 μ x1 x3 x4 H locs ls h hP hS (lv_sub hl [0, 1, 3, 4] rfl)
      · rw [if_pos c2] at h
        refine lv_iload hx hb dX10_number_18 (lv_at hl 4 rfl) ?_
        refine lv_iload_n hx hb dX10_number_20 rfl (lv_at hl 2 rfl) ?_
        refine lv_icmp_ge (tgt := 69) hx hb dX10_number_21 (by decide) (fun c3 => ?_) (fun c3 => ?_)
        · rw [if_pos c3] at h
          exact J69 μ x1 x3 x4 H locs ls h hP hS (lv_sub hl [0, 1, 3, 4] rfl)
        · rw [if_neg c3] at h
          refine lv_aload_n hx hb dX10_number_24 rfl (lv_at hl 0 rfl) ?_
          refine lv_iconst (v := (0 : Int32)) hx hb dX10_number_25 (by decide) ?_
          obtain ⟨r4, hc4, h⟩ := fw_b1_e h
          refine fw_ret (va_runV (As := [.int (0 : Int32)]) (rest := []) ⟨hx, hb, hml, hown, hU⟩ (k_X10_here l hE (0 : Int32) hc4) (cwV 1 hU (fw_gV m_1493 m_1495 ms_41 m_9 m_1496) rfl rfl rfl (by decide +kernel) ⟨(Nat.le_of_ble_eq_true rfl), (Nat.le_of_ble_eq_true rfl)⟩) ⟨fw_blind, fw_recv hK hP (fw_V0 (f := 18) (by decide) (by decide)) rfl rfl, fun U hU9 hW9 => ⟨rfl, fw_pre hK hP hSt hS U hU9 hW9⟩⟩ rfl rfl hl.1 rfl (lv_room (Nat.le_of_ble_eq_true rfl)) dX10_number_26 ⟨Nat.zero_le _, Nat.zero_le _⟩) hS (fun H locs hP hS => ?_)
          refine lv_bipush (v := (48 : Int32)) hx hb dX10_number_29 (by decide) ?_
          refine lv_bipush (v := (57 : Int32)) hx hb dX10_number_31 (by decide) ?_
          obtain ⟨r5, hc5, h⟩ := fw_b1_e h
          refine fw_ret (va_runS (As := [.int r4, .int (48 : Int32), .int (57 : Int32)]) (rest := []) ⟨hx, hb, hml, hown, hU⟩ (k_X10_in l hE r4 (48 : Int32) (57 : Int32) hc5) (va_cwS 3 hU (fw_gS m_1197 m_1198 m_9 m_1199) rfl rfl rfl (by decide +kernel) ⟨(Nat.le_of_ble_eq_true rfl), (Nat.le_of_ble_eq_true rfl)⟩) ⟨fw_blind, fun U hU9 hW9 => ⟨rfl, fw_pre hK hP hSt hS U hU9 hW9⟩⟩ rfl rfl hl.1 rfl (lv_room (Nat.le_of_ble_eq_true rfl)) dX10_number_33 ⟨Nat.zero_le _, Nat.zero_le _⟩) hS (fun H locs hP hS => ?_)
          refine lv_if_eq (tgt := 69) hx hb dX10_number_36 (by decide) (fun c6 => ?_) (fun c6 => ?_)
          · rw [if_pos c6] at h
            exact J69 μ x1 x3 x4 H locs ls h hP hS (lv_sub hl [0, 1, 3, 4] rfl)
          · rw [if_neg c6] at h
            refine lv_bipush (v := (10 : Int32)) hx hb dX10_number_39 (by decide) ?_
            refine lv_iload_n hx hb dX10_number_41 rfl (lv_at hl 3 rfl) ?_
            refine lv_imul hx hb dX10_number_42 ?_
            refine lv_aload_n hx hb dX10_number_43 rfl (lv_at hl 0 rfl) ?_
            refine lv_iconst (v := (0 : Int32)) hx hb dX10_number_44 (by decide) ?_
            obtain ⟨r7, hc7, h⟩ := fw_b1_e h
            refine fw_ret (va_runV (As := [.int (0 : Int32)]) (rest := [.int ((10 : Int32) * x3)]) ⟨hx, hb, hml, hown, hU⟩ (k_X10_here l hE (0 : Int32) hc7) (cwV 1 hU (fw_gV m_1493 m_1495 ms_41 m_9 m_1496) rfl rfl rfl (by decide +kernel) ⟨(Nat.le_of_ble_eq_true rfl), (Nat.le_of_ble_eq_true rfl)⟩) ⟨fw_blind, fw_recv hK hP (fw_V0 (f := 18) (by decide) (by decide)) rfl rfl, fun U hU9 hW9 => ⟨rfl, fw_pre hK hP hSt hS U hU9 hW9⟩⟩ rfl rfl hl.1 rfl (lv_room (Nat.le_of_ble_eq_true rfl)) dX10_number_45 ⟨Nat.zero_le _, Nat.zero_le _⟩) hS (fun H locs hP hS => ?_)
            refine lv_iadd hx hb dX10_number_48 ?_
            refine lv_bipush (v := (48 : Int32)) hx hb dX10_number_49 (by decide) ?_
            refine lv_isub hx hb dX10_number_51 ?_
            refine lv_istore_n (lv' := [(3, .int ((((10 : Int32) * x3) + r7) - (48 : Int32))), (0, .ref (fw_ad E 0 18)), (1, .int x1), (2, .int x2), (4, .int x4)]) hx hb dX10_number_52 rfl hl (by decide) rfl (fun ls hl => ?_)
            refine lv_aload_n hx hb dX10_number_53 rfl (lv_at hl 1 rfl) ?_
            refine lv_dup hx hb dX10_number_54 rfl ?_
            refine va_get (D := fw_D E) (ci := 8) (v := .int (μ 0 18 16)) (C := RX10) (T := TX10) (N := 20) hx hb hU inU10 hown hK (fw_at hP (fw_V0 (f := 18) (by decide) (by decide))) 0 rfl rfl 16 (by decide) (hU (Cond.fieldLink RX10 191 "LaundryServiceModel" "spot" "I") m_1133) (fun _ h9 => h9) rfl dX10_number_55 ?_
            refine lv_iconst (v := (1 : Int32)) hx hb dX10_number_58 (by decide) ?_
            refine lv_iadd hx hb dX10_number_59 ?_
            refine fw_put (ci := 8) (v := .int ((μ 0 18 16) + (1 : Int32))) (ty := .int) (C := RX10) (T := TX10) (N := 20) hx hb hU inU10 tyX10 tyX10_ok nmX10 hown hK hP hE hS (fw_V0 (f := 18) (by decide) (by decide)) rfl rfl 16 (by decide) (hU (Cond.fieldLink RX10 191 "LaundryServiceModel" "spot" "I") m_1133) (fun _ h9 => h9) rfl (by decide +kernel) rfl rfl (Nat.le_of_ble_eq_true rfl) 16 ((μ 0 18 16) + (1 : Int32)) (by rw [fw_u_c]; rfl) dX10_number_60 (fun H locs hP hS => ?_)
            obtain ⟨μ8, eμ8, h⟩ := fw_l_e h
            rw [← eμ8] at hP
            refine lv_iinc (v := (x4 + (1 : Int32))) (lv' := [(4, .int (x4 + (1 : Int32))), (3, .int ((((10 : Int32) * x3) + r7) - (48 : Int32))), (0, .ref (fw_ad E 0 18)), (1, .int x1), (2, .int x2)]) hx hb dX10_number_63 hl (k := 4) rfl rfl (by decide) rfl (fun ls hl => ?_)
            refine lv_goto (tgt := 11) hx hb dX10_number_66 (by decide) ?_
            exact ih11 μ8 x1 x2 ((((10 : Int32) * x3) + r7) - (48 : Int32)) (x4 + (1 : Int32)) H locs ls h hP hS (lv_sub hl [2, 3, 4, 1, 0] rfl)
  have EN : ∀ (H : Heap) (locs : List Loc) (ls : Array Slot), fw_P E o d μ H → va_S (fw_A E) s.heap H locs → lv_has ls 5 [(0, .ref (fw_ad E 0 18)), (1, .int x1), (2, .int x2)] → W p l e (headSpec (fw_ws yX10_number cX10_number 5 none) ({ frames := 5, cells := 0, slots := 0, locals := 107 } : Room)).room s m args below meth c H locs 0 0 (MQ below (fw_Q E o d none μ') args s 0 0 (fw_A E)) (F0 m 0 ls []) := by
    intro H locs ls hP hS hl
    unfold f_X10_number at h
    refine lv_aload_n hx hb dX10_number_0 rfl (lv_at hl 0 rfl) ?_
    refine va_ldcS hx hb hown (hSt.2.2.2.1 _ (List.mem_of_getElem? (i := 23) rfl)) dX10_number_1 ?_
    obtain ⟨μ1, r1, hc1, h⟩ := fw_b2_e h
    refine fw_retv (va_runV (As := [.ref (fw_x E 5 6)]) (rest := []) ⟨hx, hb, hml, hown, hU⟩ (k_X10_says l hE (by decide) hc1) (cwV 1 hU (fw_gV m_1502 m_1504 ms_43 m_9 m_1505) rfl rfl rfl (by decide +kernel) ⟨(Nat.le_of_ble_eq_true rfl), (Nat.le_of_ble_eq_true rfl)⟩) ⟨fw_blind, fw_recv hK hP (fw_V0 (f := 18) (by decide) (by decide)) rfl rfl, fun U hU9 hW9 => ⟨rfl, fw_pre hK hP hSt hS U hU9 hW9⟩⟩ rfl rfl hl.1 rfl (lv_room (Nat.le_of_ble_eq_true rfl)) dX10_number_3 ⟨Nat.zero_le _, Nat.zero_le _⟩) hS (fun H locs hP hS => ?_)
    refine lv_iconst (v := (0 : Int32)) hx hb dX10_number_6 (by decide) ?_
    refine lv_istore_n (lv' := [(3, .int (0 : Int32)), (0, .ref (fw_ad E 0 18)), (1, .int x1), (2, .int x2)]) hx hb dX10_number_7 rfl hl (by decide) rfl (fun ls hl => ?_)
    refine lv_iconst (v := (0 : Int32)) hx hb dX10_number_8 (by decide) ?_
    refine lv_istore (lv' := [(4, .int (0 : Int32)), (3, .int (0 : Int32)), (0, .ref (fw_ad E 0 18)), (1, .int x1), (2, .int x2)]) hx hb dX10_number_9 hl (by decide) rfl (fun ls hl => ?_)
    exact L11 1000 μ1 x1 x2 (0 : Int32) (0 : Int32) H locs ls h hP hS (lv_sub hl [2, 3, 4, 1, 0] rfl)
  subst ha
  have hl := lv_entry ([.ref (fw_ad E 0 18), .int x1, .int x2]) (n := 5) (Nat.le_of_ble_eq_true rfl)
  rw [lg_entry_eq]
  generalize (lg_sl ([.ref (fw_ad E 0 18), .int x1, .int x2]) ++ List.replicate (5 - (lg_sl ([.ref (fw_ad E 0 18), .int x1, .int x2])).length) Slot.unset).toArray = ls at hl ⊢
  exact EN s.heap [] ls hP va_S.rf hl
set_option maxHeartbeats 4000000 in
set_option maxRecDepth 100000 in
theorem k_X10_one (l : Launch) {E : fw_E} {o : Int64} {d : UInt64} (hE : fw_ok E) {μ μ' : fw_M} {k0 : Nat} (hk0 : k0 < 8) (x1 : Int32) (x3 : Int32) (x4 : Int32) {r : Unit} (h : f_X10_one μ k0 x1 x3 x4 = some (μ', r)) : Met l yX10_one (fw_ws yX10_one cX10_one 5 none) ({ frames := 6, cells := 0, slots := 0, locals := 131 } : Room) (va_Pc [.ref (fw_ad E 0 18), .int x1, .ref (fw_x E 5 k0), .int x3, .int x4] (fw_Pre E o d μ)) (fw_Q E o d none μ') 0 0 (fw_A E) := by
  refine Met.ofW (cc := cX10_one) (maxL := 5) (ret := none) (by decide) rfl ?_
  intro p e s m args below meth c s₁ B hml hv
  obtain ⟨ha, hK, hP, hSt⟩ := hv
  have hx := B.exec
  have hb := B.bytes
  have hr := B.returns
  have hts := atoms_spec (ws := fw_ws yX10_one cX10_one 5 none) B.pre
  have hU : ∀ w ∈ fw_U, w.before args s = true := fun w hw => hts w (List.mem_cons_of_mem _ hw)
  have hown : s.vm.findClass RX10 = some m.cls := findClass_of_methodNamed B.named
  have hlocks := B.notSynchronized
  have EN : ∀ (H : Heap) (locs : List Loc) (ls : Array Slot), fw_P E o d μ H → va_S (fw_A E) s.heap H locs → lv_has ls 5 [(0, .ref (fw_ad E 0 18)), (1, .int x1), (2, .ref (fw_x E 5 k0)), (3, .int x3), (4, .int x4)] → W p l e (headSpec (fw_ws yX10_one cX10_one 5 none) ({ frames := 6, cells := 0, slots := 0, locals := 131 } : Room)).room s m args below meth c H locs 0 0 (MQ below (fw_Q E o d none μ') args s 0 0 (fw_A E)) (F0 m 0 ls []) := by
    intro H locs ls hP hS hl
    unfold f_X10_one at h
    refine lv_aload_n hx hb dX10_one_0 rfl (lv_at hl 0 rfl) ?_
    refine va_get (D := fw_D E) (ci := 8) (v := .ref (fw_ad E 0 24)) (C := RX10) (T := TX10) (N := 20) hx hb hU inU10 hown hK (fw_at hP (fw_V0 (f := 18) (by decide) (by decide))) 0 rfl rfl 8 (by decide) (hU (Cond.fieldLink RX10 25 "LaundryServiceModel" "told" "[I") m_1125) (fun _ h9 => h9) rfl dX10_one_1 ?_
    refine lv_iconst (v := (4 : Int32)) hx hb dX10_one_4 (by decide) ?_
    refine lv_aload_n hx hb dX10_one_5 rfl (lv_at hl 0 rfl) ?_
    refine va_get (D := fw_D E) (ci := 8) (v := .int (μ 0 18 18)) (C := RX10) (T := TX10) (N := 20) hx hb hU inU10 hown hK (fw_at hP (fw_V0 (f := 18) (by decide) (by decide))) 0 rfl rfl 18 (by decide) (hU (Cond.fieldLink RX10 213 "LaundryServiceModel" "commands" "I") m_1135) (fun _ h9 => h9) rfl dX10_one_6 ?_
    refine lv_imul hx hb dX10_one_9 ?_
    refine lv_iload_n hx hb dX10_one_10 rfl (lv_at hl 1 rfl) ?_
    obtain ⟨g1, h⟩ := fw_g_e h
    refine fw_iast (n := 300) hx hb hK hP hE hS (fw_V0 (f := 24) (by decide) (by decide)) (fun _ => rfl) (fw_in_e g1) dX10_one_11 (fun H locs hP hS => ?_)
    obtain ⟨μ2, eμ2, h⟩ := fw_l_e h
    rw [← eμ2] at hP
    refine lv_aload_n hx hb dX10_one_12 rfl (lv_at hl 0 rfl) ?_
    refine lv_aload_n hx hb dX10_one_13 rfl (lv_at hl 2 rfl) ?_
    obtain ⟨μ3, r3, hc3, h⟩ := fw_b2_e h
    refine fw_retv (va_runV (As := [.ref (fw_x E 5 k0)]) (rest := []) ⟨hx, hb, hml, hown, hU⟩ (k_X10_says l hE hk0 hc3) (cwV 1 hU (fw_gV m_1502 m_1504 ms_43 m_9 m_1505) rfl rfl rfl (by decide +kernel) ⟨(Nat.le_of_ble_eq_true rfl), (Nat.le_of_ble_eq_true rfl)⟩) ⟨fw_blind, fw_recv hK hP (fw_V0 (f := 18) (by decide) (by decide)) rfl rfl, fun U hU9 hW9 => ⟨rfl, fw_pre hK hP hSt hS U hU9 hW9⟩⟩ rfl rfl hl.1 rfl (lv_room (Nat.le_of_ble_eq_true rfl)) dX10_one_14 ⟨Nat.zero_le _, Nat.zero_le _⟩) hS (fun H locs hP hS => ?_)
    refine lv_aload_n hx hb dX10_one_17 rfl (lv_at hl 0 rfl) ?_
    refine lv_iconst (v := (1 : Int32)) hx hb dX10_one_18 (by decide) ?_
    refine lv_iload_n hx hb dX10_one_19 rfl (lv_at hl 3 rfl) ?_
    obtain ⟨μ4, r4, hc4, h⟩ := fw_b2_e h
    refine fw_retv (va_runV (As := [.int (1 : Int32), .int x3]) (rest := []) ⟨hx, hb, hml, hown, hU⟩ (k_X10_number l hE (1 : Int32) x3 hc4) (cwV 2 hU (fw_gV m_1507 m_1509 ms_44 m_9 m_1510) rfl rfl rfl (by decide +kernel) ⟨(Nat.le_of_ble_eq_true rfl), (Nat.le_of_ble_eq_true rfl)⟩) ⟨fw_blind, fw_recv hK hP (fw_V0 (f := 18) (by decide) (by decide)) rfl rfl, fun U hU9 hW9 => ⟨rfl, fw_pre hK hP hSt hS U hU9 hW9⟩⟩ rfl rfl hl.1 rfl (lv_room (Nat.le_of_ble_eq_true rfl)) dX10_one_20 ⟨Nat.zero_le _, Nat.zero_le _⟩) hS (fun H locs hP hS => ?_)
    refine lv_iload hx hb dX10_one_23 (lv_at hl 4 rfl) ?_
    refine lv_if_le (tgt := 35) hx hb dX10_one_25 (by decide) (fun c5 => ?_) (fun c5 => ?_)
    · rw [if_pos c5] at h
      exact W.vret hx hb hr (fw_ev h hP hS) hS.2.2 dX10_one_35
    · rw [if_neg c5] at h
      refine lv_aload_n hx hb dX10_one_28 rfl (lv_at hl 0 rfl) ?_
      refine lv_iconst (v := (2 : Int32)) hx hb dX10_one_29 (by decide) ?_
      refine lv_iload hx hb dX10_one_30 (lv_at hl 4 rfl) ?_
      obtain ⟨μ6, r6, hc6, h⟩ := fw_b2_e h
      refine fw_retv (va_runV (As := [.int (2 : Int32), .int x4]) (rest := []) ⟨hx, hb, hml, hown, hU⟩ (k_X10_number l hE (2 : Int32) x4 hc6) (cwV 2 hU (fw_gV m_1507 m_1509 ms_44 m_9 m_1510) rfl rfl rfl (by decide +kernel) ⟨(Nat.le_of_ble_eq_true rfl), (Nat.le_of_ble_eq_true rfl)⟩) ⟨fw_blind, fw_recv hK hP (fw_V0 (f := 18) (by decide) (by decide)) rfl rfl, fun U hU9 hW9 => ⟨rfl, fw_pre hK hP hSt hS U hU9 hW9⟩⟩ rfl rfl hl.1 rfl (lv_room (Nat.le_of_ble_eq_true rfl)) dX10_one_32 ⟨Nat.zero_le _, Nat.zero_le _⟩) hS (fun H locs hP hS => ?_)
      exact W.vret hx hb hr (fw_ev h hP hS) hS.2.2 dX10_one_35
  subst ha
  have hl := lv_entry ([.ref (fw_ad E 0 18), .int x1, .ref (fw_x E 5 k0), .int x3, .int x4]) (n := 5) (Nat.le_of_ble_eq_true rfl)
  rw [lg_entry_eq]
  generalize (lg_sl ([.ref (fw_ad E 0 18), .int x1, .ref (fw_x E 5 k0), .int x3, .int x4]) ++ List.replicate (5 - (lg_sl ([.ref (fw_ad E 0 18), .int x1, .ref (fw_x E 5 k0), .int x3, .int x4])).length) Slot.unset).toArray = ls at hl ⊢
  exact EN s.heap [] ls hP va_S.rf hl
set_option maxHeartbeats 4000000 in
set_option maxRecDepth 100000 in
theorem k_X10_readsOne (l : Launch) {E : fw_E} {o : Int64} {d : UInt64} (hE : fw_ok E) {μ μ' : fw_M} {r : Unit} (h : f_X10_readsOne μ = some (μ', r)) : Met l yX10_readsOne (fw_ws yX10_readsOne cX10_readsOne 1 none) ({ frames := 7, cells := 0, slots := 0, locals := 155 } : Room) (va_Pc [.ref (fw_ad E 0 18)] (fw_Pre E o d μ)) (fw_Q E o d none μ') 0 0 (fw_A E) := by
  refine Met.ofW (cc := cX10_readsOne) (maxL := 1) (ret := none) (by decide) rfl ?_
  intro p e s m args below meth c s₁ B hml hv
  obtain ⟨ha, hK, hP, hSt⟩ := hv
  have hx := B.exec
  have hb := B.bytes
  have hr := B.returns
  have hts := atoms_spec (ws := fw_ws yX10_readsOne cX10_readsOne 1 none) B.pre
  have hU : ∀ w ∈ fw_U, w.before args s = true := fun w hw => hts w (List.mem_cons_of_mem _ hw)
  have hown : s.vm.findClass RX10 = some m.cls := findClass_of_methodNamed B.named
  have hlocks := B.notSynchronized
  have J101 : ∀ (μ : fw_M) (H : Heap) (locs : List Loc) (ls : Array Slot), f_X10_readsOne_J101 μ = some (μ', r) → fw_P E o d μ H → va_S (fw_A E) s.heap H locs → lv_has ls 1 [(0, .ref (fw_ad E 0 18))] → W p l e (headSpec (fw_ws yX10_readsOne cX10_readsOne 1 none) ({ frames := 7, cells := 0, slots := 0, locals := 155 } : Room)).room s m args below meth c H locs 0 0 (MQ below (fw_Q E o d none μ') args s 0 0 (fw_A E)) (F0 m 101 ls []) := by
    intro μ H locs ls h hP hS hl
    unfold f_X10_readsOne_J101 at h
    refine lv_aload_n hx hb dX10_readsOne_101 rfl (lv_at hl 0 rfl) ?_
    refine lv_iconst (v := (3 : Int32)) hx hb dX10_readsOne_102 (by decide) ?_
    refine lv_iconst (v := (3 : Int32)) hx hb dX10_readsOne_103 (by decide) ?_
    obtain ⟨μ16, r16, hc16, h⟩ := fw_b2_e h
    refine fw_retv (va_runV (As := [.int (3 : Int32), .int (3 : Int32)]) (rest := []) ⟨hx, hb, hml, hown, hU⟩ (k_X10_number l hE (3 : Int32) (3 : Int32) hc16) (cwV 2 hU (fw_gV m_1507 m_1509 ms_44 m_9 m_1510) rfl rfl rfl (by decide +kernel) ⟨(Nat.le_of_ble_eq_true rfl), (Nat.le_of_ble_eq_true rfl)⟩) ⟨fw_blind, fw_recv hK hP (fw_V0 (f := 18) (by decide) (by decide)) rfl rfl, fun U hU9 hW9 => ⟨rfl, fw_pre hK hP hSt hS U hU9 hW9⟩⟩ rfl rfl hl.1 rfl (lv_room (Nat.le_of_ble_eq_true rfl)) dX10_readsOne_104 ⟨Nat.zero_le _, Nat.zero_le _⟩) hS (fun H locs hP hS => ?_)
    refine lv_goto (tgt := 167) hx hb dX10_readsOne_107 (by decide) ?_
    refine lv_aload_n hx hb dX10_readsOne_167 rfl (lv_at hl 0 rfl) ?_
    refine lv_dup hx hb dX10_readsOne_168 rfl ?_
    refine va_get (D := fw_D E) (ci := 8) (v := .int (μ16 0 18 18)) (C := RX10) (T := TX10) (N := 20) hx hb hU inU10 hown hK (fw_at hP (fw_V0 (f := 18) (by decide) (by decide))) 0 rfl rfl 18 (by decide) (hU (Cond.fieldLink RX10 213 "LaundryServiceModel" "commands" "I") m_1135) (fun _ h9 => h9) rfl dX10_readsOne_169 ?_
    refine lv_iconst (v := (1 : Int32)) hx hb dX10_readsOne_172 (by decide) ?_
    refine lv_iadd hx hb dX10_readsOne_173 ?_
    refine fw_put (ci := 8) (v := .int ((μ16 0 18 18) + (1 : Int32))) (ty := .int) (C := RX10) (T := TX10) (N := 20) hx hb hU inU10 tyX10 tyX10_ok nmX10 hown hK hP hE hS (fw_V0 (f := 18) (by decide) (by decide)) rfl rfl 18 (by decide) (hU (Cond.fieldLink RX10 213 "LaundryServiceModel" "commands" "I") m_1135) (fun _ h9 => h9) rfl (by decide +kernel) rfl rfl (Nat.le_of_ble_eq_true rfl) 18 ((μ16 0 18 18) + (1 : Int32)) (by rw [fw_u_c]; rfl) dX10_readsOne_174 (fun H locs hP hS => ?_)
    obtain ⟨μ17, eμ17, h⟩ := fw_l_e h
    rw [← eμ17] at hP
    exact W.vret hx hb hr (fw_ev h hP hS) hS.2.2 dX10_readsOne_177
  have J162 : ∀ (μ : fw_M) (H : Heap) (locs : List Loc) (ls : Array Slot), f_X10_readsOne_J162 μ = some (μ', r) → fw_P E o d μ H → va_S (fw_A E) s.heap H locs → lv_has ls 1 [(0, .ref (fw_ad E 0 18))] → W p l e (headSpec (fw_ws yX10_readsOne cX10_readsOne 1 none) ({ frames := 7, cells := 0, slots := 0, locals := 155 } : Room)).room s m args below meth c H locs 0 0 (MQ below (fw_Q E o d none μ') args s 0 0 (fw_A E)) (F0 m 162 ls []) := by
    intro μ H locs ls h hP hS hl
    unfold f_X10_readsOne_J162 at h
    refine lv_aload_n hx hb dX10_readsOne_162 rfl (lv_at hl 0 rfl) ?_
    refine lv_iconst (v := (1 : Int32)) hx hb dX10_readsOne_163 (by decide) ?_
    refine fw_put (ci := 8) (v := .int (1 : Int32)) (ty := .boolean) (C := RX10) (T := TX10) (N := 20) hx hb hU inU10 tyX10 tyX10_ok nmX10 hown hK hP hE hS (fw_V0 (f := 18) (by decide) (by decide)) rfl rfl 19 (by decide) (hU (Cond.fieldLink RX10 200 "LaundryServiceModel" "isWrong" "Z") m_1136) (fun _ h9 => h9) rfl (by decide +kernel) rfl rfl (Nat.le_of_ble_eq_true rfl) 19 (1 : Int32) (by rw [fw_u_c]; rfl) dX10_readsOne_164 (fun H locs hP hS => ?_)
    obtain ⟨μ14, eμ14, h⟩ := fw_l_e h
    rw [← eμ14] at hP
    refine lv_aload_n hx hb dX10_readsOne_167 rfl (lv_at hl 0 rfl) ?_
    refine lv_dup hx hb dX10_readsOne_168 rfl ?_
    refine va_get (D := fw_D E) (ci := 8) (v := .int (μ14 0 18 18)) (C := RX10) (T := TX10) (N := 20) hx hb hU inU10 hown hK (fw_at hP (fw_V0 (f := 18) (by decide) (by decide))) 0 rfl rfl 18 (by decide) (hU (Cond.fieldLink RX10 213 "LaundryServiceModel" "commands" "I") m_1135) (fun _ h9 => h9) rfl dX10_readsOne_169 ?_
    refine lv_iconst (v := (1 : Int32)) hx hb dX10_readsOne_172 (by decide) ?_
    refine lv_iadd hx hb dX10_readsOne_173 ?_
    refine fw_put (ci := 8) (v := .int ((μ14 0 18 18) + (1 : Int32))) (ty := .int) (C := RX10) (T := TX10) (N := 20) hx hb hU inU10 tyX10 tyX10_ok nmX10 hown hK hP hE hS (fw_V0 (f := 18) (by decide) (by decide)) rfl rfl 18 (by decide) (hU (Cond.fieldLink RX10 213 "LaundryServiceModel" "commands" "I") m_1135) (fun _ h9 => h9) rfl (by decide +kernel) rfl rfl (Nat.le_of_ble_eq_true rfl) 18 ((μ14 0 18 18) + (1 : Int32)) (by rw [fw_u_c]; rfl) dX10_readsOne_174 (fun H locs hP hS => ?_)
    obtain ⟨μ15, eμ15, h⟩ := fw_l_e h
    rw [← eμ15] at hP
    exact W.vret hx hb hr (fw_ev h hP hS) hS.2.2 dX10_readsOne_177
  have EN : ∀ (H : Heap) (locs : List Loc) (ls : Array Slot), fw_P E o d μ H → va_S (fw_A E) s.heap H locs → lv_has ls 1 [(0, .ref (fw_ad E 0 18))] → W p l e (headSpec (fw_ws yX10_readsOne cX10_readsOne 1 none) ({ frames := 7, cells := 0, slots := 0, locals := 155 } : Room)).room s m args below meth c H locs 0 0 (MQ below (fw_Q E o d none μ') args s 0 0 (fw_A E)) (F0 m 0 ls []) := by
    intro H locs ls hP hS hl
    unfold f_X10_readsOne at h
    refine lv_aload_n hx hb dX10_readsOne_0 rfl (lv_at hl 0 rfl) ?_
    refine lv_iconst (v := (0 : Int32)) hx hb dX10_readsOne_1 (by decide) ?_
    obtain ⟨r1, hc1, h⟩ := fw_b1_e h
    refine fw_ret (va_runV (As := [.int (0 : Int32)]) (rest := []) ⟨hx, hb, hml, hown, hU⟩ (k_X10_here l hE (0 : Int32) hc1) (cwV 1 hU (fw_gV m_1493 m_1495 ms_41 m_9 m_1496) rfl rfl rfl (by decide +kernel) ⟨(Nat.le_of_ble_eq_true rfl), (Nat.le_of_ble_eq_true rfl)⟩) ⟨fw_blind, fw_recv hK hP (fw_V0 (f := 18) (by decide) (by decide)) rfl rfl, fun U hU9 hW9 => ⟨rfl, fw_pre hK hP hSt hS U hU9 hW9⟩⟩ rfl rfl hl.1 rfl (lv_room (Nat.le_of_ble_eq_true rfl)) dX10_readsOne_2 ⟨Nat.zero_le _, Nat.zero_le _⟩) hS (fun H locs hP hS => ?_)
    by_cases q5_0 : r1 = (104 : Int32)
    · rw [if_pos q5_0] at h
      rw [q5_0]
      refine lv_tableIn (tgt := 136) hx hb dX10_readsOne_5 (by decide) (by decide) rfl (by decide) ?_
      refine lv_aload_n hx hb dX10_readsOne_136 rfl (lv_at hl 0 rfl) ?_
      refine lv_bipush (v := (104 : Int32)) hx hb dX10_readsOne_137 (by decide) ?_
      refine va_ldcS hx hb hown (hSt.2.2.2.1 _ (List.mem_of_getElem? (i := 28) rfl)) dX10_readsOne_139 ?_
      refine lv_iconst (v := (1 : Int32)) hx hb dX10_readsOne_141 (by decide) ?_
      refine lv_iconst (v := (2 : Int32)) hx hb dX10_readsOne_142 (by decide) ?_
      obtain ⟨μ2, r2, hc2, h⟩ := fw_b2_e h
      refine fw_retv (va_runV (As := [.int (104 : Int32), .ref (fw_x E 5 4), .int (1 : Int32), .int (2 : Int32)]) (rest := []) ⟨hx, hb, hml, hown, hU⟩ (k_X10_one l hE (by decide) (104 : Int32) (1 : Int32) (2 : Int32) hc2) (cwV 4 hU (fw_gV m_1498 m_1500 ms_42 m_9 m_1501) rfl rfl rfl (by decide +kernel) ⟨(Nat.le_of_ble_eq_true rfl), (Nat.le_of_ble_eq_true rfl)⟩) ⟨fw_blind, fw_recv hK hP (fw_V0 (f := 18) (by decide) (by decide)) rfl rfl, fun U hU9 hW9 => ⟨rfl, fw_pre hK hP hSt hS U hU9 hW9⟩⟩ rfl rfl hl.1 rfl (lv_room (Nat.le_of_ble_eq_true rfl)) dX10_readsOne_143 ⟨Nat.zero_le _, Nat.zero_le _⟩) hS (fun H locs hP hS => ?_)
      refine lv_goto (tgt := 167) hx hb dX10_readsOne_146 (by decide) ?_
      refine lv_aload_n hx hb dX10_readsOne_167 rfl (lv_at hl 0 rfl) ?_
      refine lv_dup hx hb dX10_readsOne_168 rfl ?_
      refine va_get (D := fw_D E) (ci := 8) (v := .int (μ2 0 18 18)) (C := RX10) (T := TX10) (N := 20) hx hb hU inU10 hown hK (fw_at hP (fw_V0 (f := 18) (by decide) (by decide))) 0 rfl rfl 18 (by decide) (hU (Cond.fieldLink RX10 213 "LaundryServiceModel" "commands" "I") m_1135) (fun _ h9 => h9) rfl dX10_readsOne_169 ?_
      refine lv_iconst (v := (1 : Int32)) hx hb dX10_readsOne_172 (by decide) ?_
      refine lv_iadd hx hb dX10_readsOne_173 ?_
      refine fw_put (ci := 8) (v := .int ((μ2 0 18 18) + (1 : Int32))) (ty := .int) (C := RX10) (T := TX10) (N := 20) hx hb hU inU10 tyX10 tyX10_ok nmX10 hown hK hP hE hS (fw_V0 (f := 18) (by decide) (by decide)) rfl rfl 18 (by decide) (hU (Cond.fieldLink RX10 213 "LaundryServiceModel" "commands" "I") m_1135) (fun _ h9 => h9) rfl (by decide +kernel) rfl rfl (Nat.le_of_ble_eq_true rfl) 18 ((μ2 0 18 18) + (1 : Int32)) (by rw [fw_u_c]; rfl) dX10_readsOne_174 (fun H locs hP hS => ?_)
      obtain ⟨μ3, eμ3, h⟩ := fw_l_e h
      rw [← eμ3] at hP
      exact W.vret hx hb hr (fw_ev h hP hS) hS.2.2 dX10_readsOne_177
    · rw [if_neg q5_0] at h
      by_cases q5_1 : r1 = (105 : Int32)
      · rw [if_pos q5_1] at h
        rw [q5_1]
        refine lv_tableIn (tgt := 162) hx hb dX10_readsOne_5 (by decide) (by decide) rfl (by decide) ?_
        exact J162 μ H locs ls h hP hS (lv_sub hl [0] rfl)
      · rw [if_neg q5_1] at h
        by_cases q5_2 : r1 = (106 : Int32)
        · rw [if_pos q5_2] at h
          rw [q5_2]
          refine lv_tableIn (tgt := 162) hx hb dX10_readsOne_5 (by decide) (by decide) rfl (by decide) ?_
          exact J162 μ H locs ls h hP hS (lv_sub hl [0] rfl)
        · rw [if_neg q5_2] at h
          by_cases q5_3 : r1 = (107 : Int32)
          · rw [if_pos q5_3] at h
            rw [q5_3]
            refine lv_tableIn (tgt := 162) hx hb dX10_readsOne_5 (by decide) (by decide) rfl (by decide) ?_
            exact J162 μ H locs ls h hP hS (lv_sub hl [0] rfl)
          · rw [if_neg q5_3] at h
            by_cases q5_4 : r1 = (108 : Int32)
            · rw [if_pos q5_4] at h
              rw [q5_4]
              refine lv_tableIn (tgt := 110) hx hb dX10_readsOne_5 (by decide) (by decide) rfl (by decide) ?_
              refine lv_aload_n hx hb dX10_readsOne_110 rfl (lv_at hl 0 rfl) ?_
              refine lv_bipush (v := (108 : Int32)) hx hb dX10_readsOne_111 (by decide) ?_
              refine va_ldcS hx hb hown (hSt.2.2.2.1 _ (List.mem_of_getElem? (i := 26) rfl)) dX10_readsOne_113 ?_
              refine lv_iconst (v := (2 : Int32)) hx hb dX10_readsOne_115 (by decide) ?_
              refine lv_iconst (v := (1 : Int32)) hx hb dX10_readsOne_116 (by decide) ?_
              obtain ⟨μ4, r4, hc4, h⟩ := fw_b2_e h
              refine fw_retv (va_runV (As := [.int (108 : Int32), .ref (fw_x E 5 2), .int (2 : Int32), .int (1 : Int32)]) (rest := []) ⟨hx, hb, hml, hown, hU⟩ (k_X10_one l hE (by decide) (108 : Int32) (2 : Int32) (1 : Int32) hc4) (cwV 4 hU (fw_gV m_1498 m_1500 ms_42 m_9 m_1501) rfl rfl rfl (by decide +kernel) ⟨(Nat.le_of_ble_eq_true rfl), (Nat.le_of_ble_eq_true rfl)⟩) ⟨fw_blind, fw_recv hK hP (fw_V0 (f := 18) (by decide) (by decide)) rfl rfl, fun U hU9 hW9 => ⟨rfl, fw_pre hK hP hSt hS U hU9 hW9⟩⟩ rfl rfl hl.1 rfl (lv_room (Nat.le_of_ble_eq_true rfl)) dX10_readsOne_117 ⟨Nat.zero_le _, Nat.zero_le _⟩) hS (fun H locs hP hS => ?_)
              refine lv_goto (tgt := 167) hx hb dX10_readsOne_120 (by decide) ?_
              refine lv_aload_n hx hb dX10_readsOne_167 rfl (lv_at hl 0 rfl) ?_
              refine lv_dup hx hb dX10_readsOne_168 rfl ?_
              refine va_get (D := fw_D E) (ci := 8) (v := .int (μ4 0 18 18)) (C := RX10) (T := TX10) (N := 20) hx hb hU inU10 hown hK (fw_at hP (fw_V0 (f := 18) (by decide) (by decide))) 0 rfl rfl 18 (by decide) (hU (Cond.fieldLink RX10 213 "LaundryServiceModel" "commands" "I") m_1135) (fun _ h9 => h9) rfl dX10_readsOne_169 ?_
              refine lv_iconst (v := (1 : Int32)) hx hb dX10_readsOne_172 (by decide) ?_
              refine lv_iadd hx hb dX10_readsOne_173 ?_
              refine fw_put (ci := 8) (v := .int ((μ4 0 18 18) + (1 : Int32))) (ty := .int) (C := RX10) (T := TX10) (N := 20) hx hb hU inU10 tyX10 tyX10_ok nmX10 hown hK hP hE hS (fw_V0 (f := 18) (by decide) (by decide)) rfl rfl 18 (by decide) (hU (Cond.fieldLink RX10 213 "LaundryServiceModel" "commands" "I") m_1135) (fun _ h9 => h9) rfl (by decide +kernel) rfl rfl (Nat.le_of_ble_eq_true rfl) 18 ((μ4 0 18 18) + (1 : Int32)) (by rw [fw_u_c]; rfl) dX10_readsOne_174 (fun H locs hP hS => ?_)
              obtain ⟨μ5, eμ5, h⟩ := fw_l_e h
              rw [← eμ5] at hP
              exact W.vret hx hb hr (fw_ev h hP hS) hS.2.2 dX10_readsOne_177
            · rw [if_neg q5_4] at h
              by_cases q5_5 : r1 = (109 : Int32)
              · rw [if_pos q5_5] at h
                rw [q5_5]
                refine lv_tableIn (tgt := 162) hx hb dX10_readsOne_5 (by decide) (by decide) rfl (by decide) ?_
                exact J162 μ H locs ls h hP hS (lv_sub hl [0] rfl)
              · rw [if_neg q5_5] at h
                by_cases q5_6 : r1 = (110 : Int32)
                · rw [if_pos q5_6] at h
                  rw [q5_6]
                  refine lv_tableIn (tgt := 162) hx hb dX10_readsOne_5 (by decide) (by decide) rfl (by decide) ?_
                  exact J162 μ H locs ls h hP hS (lv_sub hl [0] rfl)
                · rw [if_neg q5_6] at h
                  by_cases q5_7 : r1 = (111 : Int32)
                  · rw [if_pos q5_7] at h
                    rw [q5_7]
                    refine lv_tableIn (tgt := 123) hx hb dX10_readsOne_5 (by decide) (by decide) rfl (by decide) ?_
                    refine lv_aload_n hx hb dX10_readsOne_123 rfl (lv_at hl 0 rfl) ?_
                    refine lv_bipush (v := (111 : Int32)) hx hb dX10_readsOne_124 (by decide) ?_
                    refine va_ldcS hx hb hown (hSt.2.2.2.1 _ (List.mem_of_getElem? (i := 27) rfl)) dX10_readsOne_126 ?_
                    refine lv_iconst (v := (2 : Int32)) hx hb dX10_readsOne_128 (by decide) ?_
                    refine lv_iconst (v := (0 : Int32)) hx hb dX10_readsOne_129 (by decide) ?_
                    obtain ⟨μ6, r6, hc6, h⟩ := fw_b2_e h
                    refine fw_retv (va_runV (As := [.int (111 : Int32), .ref (fw_x E 5 3), .int (2 : Int32), .int (0 : Int32)]) (rest := []) ⟨hx, hb, hml, hown, hU⟩ (k_X10_one l hE (by decide) (111 : Int32) (2 : Int32) (0 : Int32) hc6) (cwV 4 hU (fw_gV m_1498 m_1500 ms_42 m_9 m_1501) rfl rfl rfl (by decide +kernel) ⟨(Nat.le_of_ble_eq_true rfl), (Nat.le_of_ble_eq_true rfl)⟩) ⟨fw_blind, fw_recv hK hP (fw_V0 (f := 18) (by decide) (by decide)) rfl rfl, fun U hU9 hW9 => ⟨rfl, fw_pre hK hP hSt hS U hU9 hW9⟩⟩ rfl rfl hl.1 rfl (lv_room (Nat.le_of_ble_eq_true rfl)) dX10_readsOne_130 ⟨Nat.zero_le _, Nat.zero_le _⟩) hS (fun H locs hP hS => ?_)
                    refine lv_goto (tgt := 167) hx hb dX10_readsOne_133 (by decide) ?_
                    refine lv_aload_n hx hb dX10_readsOne_167 rfl (lv_at hl 0 rfl) ?_
                    refine lv_dup hx hb dX10_readsOne_168 rfl ?_
                    refine va_get (D := fw_D E) (ci := 8) (v := .int (μ6 0 18 18)) (C := RX10) (T := TX10) (N := 20) hx hb hU inU10 hown hK (fw_at hP (fw_V0 (f := 18) (by decide) (by decide))) 0 rfl rfl 18 (by decide) (hU (Cond.fieldLink RX10 213 "LaundryServiceModel" "commands" "I") m_1135) (fun _ h9 => h9) rfl dX10_readsOne_169 ?_
                    refine lv_iconst (v := (1 : Int32)) hx hb dX10_readsOne_172 (by decide) ?_
                    refine lv_iadd hx hb dX10_readsOne_173 ?_
                    refine fw_put (ci := 8) (v := .int ((μ6 0 18 18) + (1 : Int32))) (ty := .int) (C := RX10) (T := TX10) (N := 20) hx hb hU inU10 tyX10 tyX10_ok nmX10 hown hK hP hE hS (fw_V0 (f := 18) (by decide) (by decide)) rfl rfl 18 (by decide) (hU (Cond.fieldLink RX10 213 "LaundryServiceModel" "commands" "I") m_1135) (fun _ h9 => h9) rfl (by decide +kernel) rfl rfl (Nat.le_of_ble_eq_true rfl) 18 ((μ6 0 18 18) + (1 : Int32)) (by rw [fw_u_c]; rfl) dX10_readsOne_174 (fun H locs hP hS => ?_)
                    obtain ⟨μ7, eμ7, h⟩ := fw_l_e h
                    rw [← eμ7] at hP
                    exact W.vret hx hb hr (fw_ev h hP hS) hS.2.2 dX10_readsOne_177
                  · rw [if_neg q5_7] at h
                    by_cases q5_8 : r1 = (112 : Int32)
                    · rw [if_pos q5_8] at h
                      rw [q5_8]
                      refine lv_tableIn (tgt := 162) hx hb dX10_readsOne_5 (by decide) (by decide) rfl (by decide) ?_
                      exact J162 μ H locs ls h hP hS (lv_sub hl [0] rfl)
                    · rw [if_neg q5_8] at h
                      by_cases q5_9 : r1 = (113 : Int32)
                      · rw [if_pos q5_9] at h
                        rw [q5_9]
                        refine lv_tableIn (tgt := 162) hx hb dX10_readsOne_5 (by decide) (by decide) rfl (by decide) ?_
                        exact J162 μ H locs ls h hP hS (lv_sub hl [0] rfl)
                      · rw [if_neg q5_9] at h
                        by_cases q5_10 : r1 = (114 : Int32)
                        · rw [if_pos q5_10] at h
                          rw [q5_10]
                          refine lv_tableIn (tgt := 149) hx hb dX10_readsOne_5 (by decide) (by decide) rfl (by decide) ?_
                          refine lv_aload_n hx hb dX10_readsOne_149 rfl (lv_at hl 0 rfl) ?_
                          refine lv_bipush (v := (114 : Int32)) hx hb dX10_readsOne_150 (by decide) ?_
                          refine va_ldcS hx hb hown (hSt.2.2.2.1 _ (List.mem_of_getElem? (i := 29) rfl)) dX10_readsOne_152 ?_
                          refine lv_iconst (v := (1 : Int32)) hx hb dX10_readsOne_154 (by decide) ?_
                          refine lv_iconst (v := (0 : Int32)) hx hb dX10_readsOne_155 (by decide) ?_
                          obtain ⟨μ8, r8, hc8, h⟩ := fw_b2_e h
                          refine fw_retv (va_runV (As := [.int (114 : Int32), .ref (fw_x E 5 5), .int (1 : Int32), .int (0 : Int32)]) (rest := []) ⟨hx, hb, hml, hown, hU⟩ (k_X10_one l hE (by decide) (114 : Int32) (1 : Int32) (0 : Int32) hc8) (cwV 4 hU (fw_gV m_1498 m_1500 ms_42 m_9 m_1501) rfl rfl rfl (by decide +kernel) ⟨(Nat.le_of_ble_eq_true rfl), (Nat.le_of_ble_eq_true rfl)⟩) ⟨fw_blind, fw_recv hK hP (fw_V0 (f := 18) (by decide) (by decide)) rfl rfl, fun U hU9 hW9 => ⟨rfl, fw_pre hK hP hSt hS U hU9 hW9⟩⟩ rfl rfl hl.1 rfl (lv_room (Nat.le_of_ble_eq_true rfl)) dX10_readsOne_156 ⟨Nat.zero_le _, Nat.zero_le _⟩) hS (fun H locs hP hS => ?_)
                          refine lv_goto (tgt := 167) hx hb dX10_readsOne_159 (by decide) ?_
                          refine lv_aload_n hx hb dX10_readsOne_167 rfl (lv_at hl 0 rfl) ?_
                          refine lv_dup hx hb dX10_readsOne_168 rfl ?_
                          refine va_get (D := fw_D E) (ci := 8) (v := .int (μ8 0 18 18)) (C := RX10) (T := TX10) (N := 20) hx hb hU inU10 hown hK (fw_at hP (fw_V0 (f := 18) (by decide) (by decide))) 0 rfl rfl 18 (by decide) (hU (Cond.fieldLink RX10 213 "LaundryServiceModel" "commands" "I") m_1135) (fun _ h9 => h9) rfl dX10_readsOne_169 ?_
                          refine lv_iconst (v := (1 : Int32)) hx hb dX10_readsOne_172 (by decide) ?_
                          refine lv_iadd hx hb dX10_readsOne_173 ?_
                          refine fw_put (ci := 8) (v := .int ((μ8 0 18 18) + (1 : Int32))) (ty := .int) (C := RX10) (T := TX10) (N := 20) hx hb hU inU10 tyX10 tyX10_ok nmX10 hown hK hP hE hS (fw_V0 (f := 18) (by decide) (by decide)) rfl rfl 18 (by decide) (hU (Cond.fieldLink RX10 213 "LaundryServiceModel" "commands" "I") m_1135) (fun _ h9 => h9) rfl (by decide +kernel) rfl rfl (Nat.le_of_ble_eq_true rfl) 18 ((μ8 0 18 18) + (1 : Int32)) (by rw [fw_u_c]; rfl) dX10_readsOne_174 (fun H locs hP hS => ?_)
                          obtain ⟨μ9, eμ9, h⟩ := fw_l_e h
                          rw [← eμ9] at hP
                          exact W.vret hx hb hr (fw_ev h hP hS) hS.2.2 dX10_readsOne_177
                        · rw [if_neg q5_10] at h
                          by_cases q5_11 : r1 = (115 : Int32)
                          · rw [if_pos q5_11] at h
                            rw [q5_11]
                            refine lv_tableIn (tgt := 68) hx hb dX10_readsOne_5 (by decide) (by decide) rfl (by decide) ?_
                            refine lv_aload_n hx hb dX10_readsOne_68 rfl (lv_at hl 0 rfl) ?_
                            refine lv_iconst (v := (1 : Int32)) hx hb dX10_readsOne_69 (by decide) ?_
                            obtain ⟨r10, hc10, h⟩ := fw_b1_e h
                            refine fw_ret (va_runV (As := [.int (1 : Int32)]) (rest := []) ⟨hx, hb, hml, hown, hU⟩ (k_X10_here l hE (1 : Int32) hc10) (cwV 1 hU (fw_gV m_1493 m_1495 ms_41 m_9 m_1496) rfl rfl rfl (by decide +kernel) ⟨(Nat.le_of_ble_eq_true rfl), (Nat.le_of_ble_eq_true rfl)⟩) ⟨fw_blind, fw_recv hK hP (fw_V0 (f := 18) (by decide) (by decide)) rfl rfl, fun U hU9 hW9 => ⟨rfl, fw_pre hK hP hSt hS U hU9 hW9⟩⟩ rfl rfl hl.1 rfl (lv_room (Nat.le_of_ble_eq_true rfl)) dX10_readsOne_70 ⟨Nat.zero_le _, Nat.zero_le _⟩) hS (fun H locs hP hS => ?_)
                            refine lv_bipush (v := (104 : Int32)) hx hb dX10_readsOne_73 (by decide) ?_
                            refine lv_icmp_ne (tgt := 91) hx hb dX10_readsOne_75 (by decide) (fun c11 => ?_) (fun c11 => ?_)
                            · rw [if_neg c11] at h
                              refine lv_aload_n hx hb dX10_readsOne_91 rfl (lv_at hl 0 rfl) ?_
                              refine lv_bipush (v := (115 : Int32)) hx hb dX10_readsOne_92 (by decide) ?_
                              refine va_ldcS hx hb hown (hSt.2.2.2.1 _ (List.mem_of_getElem? (i := 25) rfl)) dX10_readsOne_94 ?_
                              refine lv_iconst (v := (1 : Int32)) hx hb dX10_readsOne_96 (by decide) ?_
                              refine lv_iconst (v := (1 : Int32)) hx hb dX10_readsOne_97 (by decide) ?_
                              obtain ⟨μ13, r13, hc13, h⟩ := fw_b2_e h
                              refine fw_retv (va_runV (As := [.int (115 : Int32), .ref (fw_x E 5 0), .int (1 : Int32), .int (1 : Int32)]) (rest := []) ⟨hx, hb, hml, hown, hU⟩ (k_X10_one l hE (by decide) (115 : Int32) (1 : Int32) (1 : Int32) hc13) (cwV 4 hU (fw_gV m_1498 m_1500 ms_42 m_9 m_1501) rfl rfl rfl (by decide +kernel) ⟨(Nat.le_of_ble_eq_true rfl), (Nat.le_of_ble_eq_true rfl)⟩) ⟨fw_blind, fw_recv hK hP (fw_V0 (f := 18) (by decide) (by decide)) rfl rfl, fun U hU9 hW9 => ⟨rfl, fw_pre hK hP hSt hS U hU9 hW9⟩⟩ rfl rfl hl.1 rfl (lv_room (Nat.le_of_ble_eq_true rfl)) dX10_readsOne_98 ⟨Nat.zero_le _, Nat.zero_le _⟩) hS (fun H locs hP hS => ?_)
                              exact J101 μ13 H locs ls h hP hS (lv_sub hl [0] rfl)
                            · rw [if_pos c11] at h
                              refine lv_aload_n hx hb dX10_readsOne_78 rfl (lv_at hl 0 rfl) ?_
                              refine lv_bipush (v := (103 : Int32)) hx hb dX10_readsOne_79 (by decide) ?_
                              refine va_ldcS hx hb hown (hSt.2.2.2.1 _ (List.mem_of_getElem? (i := 24) rfl)) dX10_readsOne_81 ?_
                              refine lv_iconst (v := (1 : Int32)) hx hb dX10_readsOne_83 (by decide) ?_
                              refine lv_iconst (v := (1 : Int32)) hx hb dX10_readsOne_84 (by decide) ?_
                              obtain ⟨μ12, r12, hc12, h⟩ := fw_b2_e h
                              refine fw_retv (va_runV (As := [.int (103 : Int32), .ref (fw_x E 5 1), .int (1 : Int32), .int (1 : Int32)]) (rest := []) ⟨hx, hb, hml, hown, hU⟩ (k_X10_one l hE (by decide) (103 : Int32) (1 : Int32) (1 : Int32) hc12) (cwV 4 hU (fw_gV m_1498 m_1500 ms_42 m_9 m_1501) rfl rfl rfl (by decide +kernel) ⟨(Nat.le_of_ble_eq_true rfl), (Nat.le_of_ble_eq_true rfl)⟩) ⟨fw_blind, fw_recv hK hP (fw_V0 (f := 18) (by decide) (by decide)) rfl rfl, fun U hU9 hW9 => ⟨rfl, fw_pre hK hP hSt hS U hU9 hW9⟩⟩ rfl rfl hl.1 rfl (lv_room (Nat.le_of_ble_eq_true rfl)) dX10_readsOne_85 ⟨Nat.zero_le _, Nat.zero_le _⟩) hS (fun H locs hP hS => ?_)
                              refine lv_goto (tgt := 101) hx hb dX10_readsOne_88 (by decide) ?_
                              exact J101 μ12 H locs ls h hP hS (lv_sub hl [0] rfl)
                          · rw [if_neg q5_11] at h
                            have hsw : r1.toInt < 104 ∨ 115 < r1.toInt := by
                              have e0 : ¬ r1.toInt = 104 := fun z => q5_0 (Int32.toInt_inj.mp z)
                              have e1 : ¬ r1.toInt = 105 := fun z => q5_1 (Int32.toInt_inj.mp z)
                              have e2 : ¬ r1.toInt = 106 := fun z => q5_2 (Int32.toInt_inj.mp z)
                              have e3 : ¬ r1.toInt = 107 := fun z => q5_3 (Int32.toInt_inj.mp z)
                              have e4 : ¬ r1.toInt = 108 := fun z => q5_4 (Int32.toInt_inj.mp z)
                              have e5 : ¬ r1.toInt = 109 := fun z => q5_5 (Int32.toInt_inj.mp z)
                              have e6 : ¬ r1.toInt = 110 := fun z => q5_6 (Int32.toInt_inj.mp z)
                              have e7 : ¬ r1.toInt = 111 := fun z => q5_7 (Int32.toInt_inj.mp z)
                              have e8 : ¬ r1.toInt = 112 := fun z => q5_8 (Int32.toInt_inj.mp z)
                              have e9 : ¬ r1.toInt = 113 := fun z => q5_9 (Int32.toInt_inj.mp z)
                              have e10 : ¬ r1.toInt = 114 := fun z => q5_10 (Int32.toInt_inj.mp z)
                              have e11 : ¬ r1.toInt = 115 := fun z => q5_11 (Int32.toInt_inj.mp z)
                              omega
                            refine lv_tableOut (tgt := 162) hx hb dX10_readsOne_5 hsw (by decide) ?_
                            exact J162 μ H locs ls h hP hS (lv_sub hl [0] rfl)
  subst ha
  have hl := lv_entry ([.ref (fw_ad E 0 18)]) (n := 1) (Nat.le_of_ble_eq_true rfl)
  rw [lg_entry_eq]
  generalize (lg_sl ([.ref (fw_ad E 0 18)]) ++ List.replicate (1 - (lg_sl ([.ref (fw_ad E 0 18)])).length) Slot.unset).toArray = ls at hl ⊢
  exact EN s.heap [] ls hP va_S.rf hl
set_option maxHeartbeats 4000000 in
set_option maxRecDepth 100000 in
theorem k_X10_does (l : Launch) {E : fw_E} {o : Int64} {d : UInt64} (hE : fw_ok E) {μ μ' : fw_M} (x1 : Int32) {r : Int32} (h : f_X10_does μ x1 = some (μ', r)) : Met l yX10_does (fw_ws yX10_does cX10_does 4 (some .int)) ({ frames := 6, cells := 0, slots := 0, locals := 138 } : Room) (va_Pc [.ref (fw_ad E 0 18), .int x1] (fw_Pre E o d μ)) (fw_Q E o d (some (.int r)) μ') 0 0 (fw_A E) := by
  refine Met.ofW (cc := cX10_does) (maxL := 4) (ret := (some .int)) (by decide) rfl ?_
  intro p e s m args below meth c s₁ B hml hv
  obtain ⟨ha, hK, hP, hSt⟩ := hv
  have hx := B.exec
  have hb := B.bytes
  have hr := B.returns
  have hts := atoms_spec (ws := fw_ws yX10_does cX10_does 4 (some .int)) B.pre
  have hU : ∀ w ∈ fw_U, w.before args s = true := fun w hw => hts w (List.mem_cons_of_mem _ hw)
  have hown : s.vm.findClass RX10 = some m.cls := findClass_of_methodNamed B.named
  have hlocks := B.notSynchronized
  have EN : ∀ (H : Heap) (locs : List Loc) (ls : Array Slot), fw_P E o d μ H → va_S (fw_A E) s.heap H locs → lv_has ls 4 [(0, .ref (fw_ad E 0 18)), (1, .int x1)] → W p l e (headSpec (fw_ws yX10_does cX10_does 4 (some .int)) ({ frames := 6, cells := 0, slots := 0, locals := 138 } : Room)).room s m args below meth c H locs 0 0 (MQ below (fw_Q E o d (some (.int r)) μ') args s 0 0 (fw_A E)) (F0 m 0 ls []) := by
    intro H locs ls hP hS hl
    unfold f_X10_does at h
    refine lv_aload_n hx hb dX10_does_0 rfl (lv_at hl 0 rfl) ?_
    refine va_get (D := fw_D E) (ci := 8) (v := .ref (fw_ad E 0 24)) (C := RX10) (T := TX10) (N := 20) hx hb hU inU10 hown hK (fw_at hP (fw_V0 (f := 18) (by decide) (by decide))) 0 rfl rfl 8 (by decide) (hU (Cond.fieldLink RX10 25 "LaundryServiceModel" "told" "[I") m_1125) (fun _ h9 => h9) rfl dX10_does_1 ?_
    refine lv_iconst (v := (4 : Int32)) hx hb dX10_does_4 (by decide) ?_
    refine lv_iload_n hx hb dX10_does_5 rfl (lv_at hl 1 rfl) ?_
    refine lv_imul hx hb dX10_does_6 ?_
    refine lv_iconst (v := (1 : Int32)) hx hb dX10_does_7 (by decide) ?_
    refine lv_iadd hx hb dX10_does_8 ?_
    obtain ⟨g1, h⟩ := fw_g_e h
    refine va_iald (D := fw_D E) hx hb hK (fw_at hP (fw_V0 (f := 24) (by decide) (by decide))) 0 0 rfl rfl (fw_in_e g1) dX10_does_9 ?_
    refine lv_istore_n (lv' := [(2, .int (μ 0 24 (((4 : Int32) * x1) + (1 : Int32)).toNatClampNeg)), (0, .ref (fw_ad E 0 18)), (1, .int x1)]) hx hb dX10_does_10 rfl hl (by decide) rfl (fun ls hl => ?_)
    refine lv_aload_n hx hb dX10_does_11 rfl (lv_at hl 1 rfl) ?_
    refine va_get (D := fw_D E) (ci := 8) (v := .ref (fw_ad E 0 24)) (C := RX10) (T := TX10) (N := 20) hx hb hU inU10 hown hK (fw_at hP (fw_V0 (f := 18) (by decide) (by decide))) 0 rfl rfl 8 (by decide) (hU (Cond.fieldLink RX10 25 "LaundryServiceModel" "told" "[I") m_1125) (fun _ h9 => h9) rfl dX10_does_12 ?_
    refine lv_iconst (v := (4 : Int32)) hx hb dX10_does_15 (by decide) ?_
    refine lv_iload_n hx hb dX10_does_16 rfl (lv_at hl 2 rfl) ?_
    refine lv_imul hx hb dX10_does_17 ?_
    refine lv_iconst (v := (2 : Int32)) hx hb dX10_does_18 (by decide) ?_
    refine lv_iadd hx hb dX10_does_19 ?_
    obtain ⟨g2, h⟩ := fw_g_e h
    refine va_iald (D := fw_D E) hx hb hK (fw_at hP (fw_V0 (f := 24) (by decide) (by decide))) 0 0 rfl rfl (fw_in_e g2) dX10_does_20 ?_
    refine lv_istore_n (lv' := [(3, .int (μ 0 24 (((4 : Int32) * x1) + (2 : Int32)).toNatClampNeg)), (2, .int (μ 0 24 (((4 : Int32) * x1) + (1 : Int32)).toNatClampNeg)), (0, .ref (fw_ad E 0 18)), (1, .int x1)]) hx hb dX10_does_21 rfl hl (by decide) rfl (fun ls hl => ?_)
    refine lv_aload_n hx hb dX10_does_22 rfl (lv_at hl 2 rfl) ?_
    refine va_get (D := fw_D E) (ci := 8) (v := .ref (fw_ad E 0 24)) (C := RX10) (T := TX10) (N := 20) hx hb hU inU10 hown hK (fw_at hP (fw_V0 (f := 18) (by decide) (by decide))) 0 rfl rfl 8 (by decide) (hU (Cond.fieldLink RX10 25 "LaundryServiceModel" "told" "[I") m_1125) (fun _ h9 => h9) rfl dX10_does_23 ?_
    refine lv_iconst (v := (4 : Int32)) hx hb dX10_does_26 (by decide) ?_
    refine lv_iload_n hx hb dX10_does_27 rfl (lv_at hl 3 rfl) ?_
    refine lv_imul hx hb dX10_does_28 ?_
    obtain ⟨g3, h⟩ := fw_g_e h
    refine va_iald (D := fw_D E) hx hb hK (fw_at hP (fw_V0 (f := 24) (by decide) (by decide))) 0 0 rfl rfl (fw_in_e g3) dX10_does_29 ?_
    by_cases q30_0 : (μ 0 24 ((4 : Int32) * x1).toNatClampNeg) = (103 : Int32)
    · rw [if_pos q30_0] at h
      rw [q30_0]
      refine lv_tableIn (tgt := 114) hx hb dX10_does_30 (by decide) (by decide) rfl (by decide) ?_
      refine lv_aload_n hx hb dX10_does_114 rfl (lv_at hl 2 rfl) ?_
      refine lv_iload_n hx hb dX10_does_115 rfl (lv_at hl 1 rfl) ?_
      refine lv_iconst (v := (0 : Int32)) hx hb dX10_does_116 (by decide) ?_
      refine lv_iload_n hx hb dX10_does_117 rfl (lv_at hl 0 rfl) ?_
      refine lv_aload_n hx hb dX10_does_118 rfl (lv_at hl 2 rfl) ?_
      refine va_get (D := fw_D E) (ci := 8) (v := .ref (fw_ad E 0 24)) (C := RX10) (T := TX10) (N := 20) hx hb hU inU10 hown hK (fw_at hP (fw_V0 (f := 18) (by decide) (by decide))) 0 rfl rfl 8 (by decide) (hU (Cond.fieldLink RX10 25 "LaundryServiceModel" "told" "[I") m_1125) (fun _ h9 => h9) rfl dX10_does_119 ?_
      refine lv_iconst (v := (4 : Int32)) hx hb dX10_does_122 (by decide) ?_
      refine lv_iload_n hx hb dX10_does_123 rfl (lv_at hl 3 rfl) ?_
      refine lv_imul hx hb dX10_does_124 ?_
      refine lv_iconst (v := (3 : Int32)) hx hb dX10_does_125 (by decide) ?_
      refine lv_iadd hx hb dX10_does_126 ?_
      obtain ⟨g4, h⟩ := fw_g_e h
      refine va_iald (D := fw_D E) hx hb hK (fw_at hP (fw_V0 (f := 24) (by decide) (by decide))) 0 0 rfl rfl (fw_in_e g4) dX10_does_127 ?_
      obtain ⟨μ5, r5, hc5, h⟩ := fw_b2_e h
      refine fw_ret (va_runV (As := [.int (μ 0 24 (((4 : Int32) * x1) + (1 : Int32)).toNatClampNeg), .int (0 : Int32), .int (μ 0 24 (((4 : Int32) * x1) + (2 : Int32)).toNatClampNeg), .int (μ 0 24 (((4 : Int32) * x1) + (3 : Int32)).toNatClampNeg)]) (rest := []) ⟨hx, hb, hml, hown, hU⟩ (k_X10_brings l hE (μ 0 24 (((4 : Int32) * x1) + (1 : Int32)).toNatClampNeg) (0 : Int32) (μ 0 24 (((4 : Int32) * x1) + (2 : Int32)).toNatClampNeg) (μ 0 24 (((4 : Int32) * x1) + (3 : Int32)).toNatClampNeg) hc5) (cwV 4 hU (fw_gV m_1190 m_1192 ms_12 m_9 m_1193) rfl rfl rfl (by decide +kernel) ⟨(Nat.le_of_ble_eq_true rfl), (Nat.le_of_ble_eq_true rfl)⟩) ⟨fw_blind, fw_recv hK hP (fw_V0 (f := 18) (by decide) (by decide)) rfl rfl, fun U hU9 hW9 => ⟨rfl, fw_pre hK hP hSt hS U hU9 hW9⟩⟩ rfl rfl hl.1 rfl (lv_room (Nat.le_of_ble_eq_true rfl)) dX10_does_128 ⟨Nat.zero_le _, Nat.zero_le _⟩) hS (fun H locs hP hS => ?_)
      exact W.iret (v := r5) hx hb hr (fw_ew (mk := Value.int) h hP hS) hS.2.2 dX10_does_131
    · rw [if_neg q30_0] at h
      by_cases q30_1 : (μ 0 24 ((4 : Int32) * x1).toNatClampNeg) = (104 : Int32)
      · rw [if_pos q30_1] at h
        rw [q30_1]
        refine lv_tableIn (tgt := 145) hx hb dX10_does_30 (by decide) (by decide) rfl (by decide) ?_
        refine lv_aload_n hx hb dX10_does_145 rfl (lv_at hl 2 rfl) ?_
        refine lv_iload_n hx hb dX10_does_146 rfl (lv_at hl 1 rfl) ?_
        refine lv_iconst (v := (2 : Int32)) hx hb dX10_does_147 (by decide) ?_
        refine lv_iload_n hx hb dX10_does_148 rfl (lv_at hl 0 rfl) ?_
        refine lv_imul hx hb dX10_does_149 ?_
        obtain ⟨μ6, r6, hc6, h⟩ := fw_b2_e h
        refine fw_ret (va_runV (As := [.int (μ 0 24 (((4 : Int32) * x1) + (1 : Int32)).toNatClampNeg), .int ((2 : Int32) * (μ 0 24 (((4 : Int32) * x1) + (2 : Int32)).toNatClampNeg))]) (rest := []) ⟨hx, hb, hml, hown, hU⟩ (k_X10_heats l hE (μ 0 24 (((4 : Int32) * x1) + (1 : Int32)).toNatClampNeg) ((2 : Int32) * (μ 0 24 (((4 : Int32) * x1) + (2 : Int32)).toNatClampNeg)) hc6) (cwV 2 hU (fw_gV m_1259 m_1261 ms_24 m_9 m_1262) rfl rfl rfl (by decide +kernel) ⟨(Nat.le_of_ble_eq_true rfl), (Nat.le_of_ble_eq_true rfl)⟩) ⟨fw_blind, fw_recv hK hP (fw_V0 (f := 18) (by decide) (by decide)) rfl rfl, fun U hU9 hW9 => ⟨rfl, fw_pre hK hP hSt hS U hU9 hW9⟩⟩ rfl rfl hl.1 rfl (lv_room (Nat.le_of_ble_eq_true rfl)) dX10_does_150 ⟨Nat.zero_le _, Nat.zero_le _⟩) hS (fun H locs hP hS => ?_)
        exact W.iret (v := r6) hx hb hr (fw_ew (mk := Value.int) h hP hS) hS.2.2 dX10_does_153
      · rw [if_neg q30_1] at h
        by_cases q30_2 : (μ 0 24 ((4 : Int32) * x1).toNatClampNeg) = (105 : Int32)
        · rw [if_pos q30_2] at h
          rw [q30_2]
          refine lv_tableIn (tgt := 154) hx hb dX10_does_30 (by decide) (by decide) rfl (by decide) ?_
          refine lv_aload_n hx hb dX10_does_154 rfl (lv_at hl 2 rfl) ?_
          refine lv_iload_n hx hb dX10_does_155 rfl (lv_at hl 1 rfl) ?_
          obtain ⟨μ7, r7, hc7, h⟩ := fw_b2_e h
          refine fw_ret (va_runV (As := [.int (μ 0 24 (((4 : Int32) * x1) + (1 : Int32)).toNatClampNeg)]) (rest := []) ⟨hx, hb, hml, hown, hU⟩ (k_X10_washesAll l hE (μ 0 24 (((4 : Int32) * x1) + (1 : Int32)).toNatClampNeg) hc7) (cwV 1 hU (fw_gV m_1268 m_1270 ms_25 m_9 m_1271) rfl rfl rfl (by decide +kernel) ⟨(Nat.le_of_ble_eq_true rfl), (Nat.le_of_ble_eq_true rfl)⟩) ⟨fw_blind, fw_recv hK hP (fw_V0 (f := 18) (by decide) (by decide)) rfl rfl, fun U hU9 hW9 => ⟨rfl, fw_pre hK hP hSt hS U hU9 hW9⟩⟩ rfl rfl hl.1 rfl (lv_room (Nat.le_of_ble_eq_true rfl)) dX10_does_156 ⟨Nat.zero_le _, Nat.zero_le _⟩) hS (fun H locs hP hS => ?_)
          exact W.iret (v := r7) hx hb hr (fw_ew (mk := Value.int) h hP hS) hS.2.2 dX10_does_159
        · rw [if_neg q30_2] at h
          by_cases q30_3 : (μ 0 24 ((4 : Int32) * x1).toNatClampNeg) = (106 : Int32)
          · rw [if_pos q30_3] at h
            rw [q30_3]
            refine lv_tableIn (tgt := 154) hx hb dX10_does_30 (by decide) (by decide) rfl (by decide) ?_
            refine lv_aload_n hx hb dX10_does_154 rfl (lv_at hl 2 rfl) ?_
            refine lv_iload_n hx hb dX10_does_155 rfl (lv_at hl 1 rfl) ?_
            obtain ⟨μ8, r8, hc8, h⟩ := fw_b2_e h
            refine fw_ret (va_runV (As := [.int (μ 0 24 (((4 : Int32) * x1) + (1 : Int32)).toNatClampNeg)]) (rest := []) ⟨hx, hb, hml, hown, hU⟩ (k_X10_washesAll l hE (μ 0 24 (((4 : Int32) * x1) + (1 : Int32)).toNatClampNeg) hc8) (cwV 1 hU (fw_gV m_1268 m_1270 ms_25 m_9 m_1271) rfl rfl rfl (by decide +kernel) ⟨(Nat.le_of_ble_eq_true rfl), (Nat.le_of_ble_eq_true rfl)⟩) ⟨fw_blind, fw_recv hK hP (fw_V0 (f := 18) (by decide) (by decide)) rfl rfl, fun U hU9 hW9 => ⟨rfl, fw_pre hK hP hSt hS U hU9 hW9⟩⟩ rfl rfl hl.1 rfl (lv_room (Nat.le_of_ble_eq_true rfl)) dX10_does_156 ⟨Nat.zero_le _, Nat.zero_le _⟩) hS (fun H locs hP hS => ?_)
            exact W.iret (v := r8) hx hb hr (fw_ew (mk := Value.int) h hP hS) hS.2.2 dX10_does_159
          · rw [if_neg q30_3] at h
            by_cases q30_4 : (μ 0 24 ((4 : Int32) * x1).toNatClampNeg) = (107 : Int32)
            · rw [if_pos q30_4] at h
              rw [q30_4]
              refine lv_tableIn (tgt := 154) hx hb dX10_does_30 (by decide) (by decide) rfl (by decide) ?_
              refine lv_aload_n hx hb dX10_does_154 rfl (lv_at hl 2 rfl) ?_
              refine lv_iload_n hx hb dX10_does_155 rfl (lv_at hl 1 rfl) ?_
              obtain ⟨μ9, r9, hc9, h⟩ := fw_b2_e h
              refine fw_ret (va_runV (As := [.int (μ 0 24 (((4 : Int32) * x1) + (1 : Int32)).toNatClampNeg)]) (rest := []) ⟨hx, hb, hml, hown, hU⟩ (k_X10_washesAll l hE (μ 0 24 (((4 : Int32) * x1) + (1 : Int32)).toNatClampNeg) hc9) (cwV 1 hU (fw_gV m_1268 m_1270 ms_25 m_9 m_1271) rfl rfl rfl (by decide +kernel) ⟨(Nat.le_of_ble_eq_true rfl), (Nat.le_of_ble_eq_true rfl)⟩) ⟨fw_blind, fw_recv hK hP (fw_V0 (f := 18) (by decide) (by decide)) rfl rfl, fun U hU9 hW9 => ⟨rfl, fw_pre hK hP hSt hS U hU9 hW9⟩⟩ rfl rfl hl.1 rfl (lv_room (Nat.le_of_ble_eq_true rfl)) dX10_does_156 ⟨Nat.zero_le _, Nat.zero_le _⟩) hS (fun H locs hP hS => ?_)
              exact W.iret (v := r9) hx hb hr (fw_ew (mk := Value.int) h hP hS) hS.2.2 dX10_does_159
            · rw [if_neg q30_4] at h
              by_cases q30_5 : (μ 0 24 ((4 : Int32) * x1).toNatClampNeg) = (108 : Int32)
              · rw [if_pos q30_5] at h
                rw [q30_5]
                refine lv_tableIn (tgt := 132) hx hb dX10_does_30 (by decide) (by decide) rfl (by decide) ?_
                refine lv_aload_n hx hb dX10_does_132 rfl (lv_at hl 2 rfl) ?_
                refine lv_iload_n hx hb dX10_does_133 rfl (lv_at hl 1 rfl) ?_
                refine lv_iload_n hx hb dX10_does_134 rfl (lv_at hl 0 rfl) ?_
                obtain ⟨μ10, r10, hc10, h⟩ := fw_b2_e h
                refine fw_ret (va_runV (As := [.int (μ 0 24 (((4 : Int32) * x1) + (1 : Int32)).toNatClampNeg), .int (μ 0 24 (((4 : Int32) * x1) + (2 : Int32)).toNatClampNeg)]) (rest := []) ⟨hx, hb, hml, hown, hU⟩ (k_X10_loads l hE (μ 0 24 (((4 : Int32) * x1) + (1 : Int32)).toNatClampNeg) (μ 0 24 (((4 : Int32) * x1) + (2 : Int32)).toNatClampNeg) hc10) (cwV 2 hU (fw_gV m_1224 m_1226 ms_18 m_9 m_1227) rfl rfl rfl (by decide +kernel) ⟨(Nat.le_of_ble_eq_true rfl), (Nat.le_of_ble_eq_true rfl)⟩) ⟨fw_blind, fw_recv hK hP (fw_V0 (f := 18) (by decide) (by decide)) rfl rfl, fun U hU9 hW9 => ⟨rfl, fw_pre hK hP hSt hS U hU9 hW9⟩⟩ rfl rfl hl.1 rfl (lv_room (Nat.le_of_ble_eq_true rfl)) dX10_does_135 ⟨Nat.zero_le _, Nat.zero_le _⟩) hS (fun H locs hP hS => ?_)
                exact W.iret (v := r10) hx hb hr (fw_ew (mk := Value.int) h hP hS) hS.2.2 dX10_does_138
              · rw [if_neg q30_5] at h
                by_cases q30_6 : (μ 0 24 ((4 : Int32) * x1).toNatClampNeg) = (109 : Int32)
                · rw [if_pos q30_6] at h
                  rw [q30_6]
                  refine lv_tableIn (tgt := 154) hx hb dX10_does_30 (by decide) (by decide) rfl (by decide) ?_
                  refine lv_aload_n hx hb dX10_does_154 rfl (lv_at hl 2 rfl) ?_
                  refine lv_iload_n hx hb dX10_does_155 rfl (lv_at hl 1 rfl) ?_
                  obtain ⟨μ11, r11, hc11, h⟩ := fw_b2_e h
                  refine fw_ret (va_runV (As := [.int (μ 0 24 (((4 : Int32) * x1) + (1 : Int32)).toNatClampNeg)]) (rest := []) ⟨hx, hb, hml, hown, hU⟩ (k_X10_washesAll l hE (μ 0 24 (((4 : Int32) * x1) + (1 : Int32)).toNatClampNeg) hc11) (cwV 1 hU (fw_gV m_1268 m_1270 ms_25 m_9 m_1271) rfl rfl rfl (by decide +kernel) ⟨(Nat.le_of_ble_eq_true rfl), (Nat.le_of_ble_eq_true rfl)⟩) ⟨fw_blind, fw_recv hK hP (fw_V0 (f := 18) (by decide) (by decide)) rfl rfl, fun U hU9 hW9 => ⟨rfl, fw_pre hK hP hSt hS U hU9 hW9⟩⟩ rfl rfl hl.1 rfl (lv_room (Nat.le_of_ble_eq_true rfl)) dX10_does_156 ⟨Nat.zero_le _, Nat.zero_le _⟩) hS (fun H locs hP hS => ?_)
                  exact W.iret (v := r11) hx hb hr (fw_ew (mk := Value.int) h hP hS) hS.2.2 dX10_does_159
                · rw [if_neg q30_6] at h
                  by_cases q30_7 : (μ 0 24 ((4 : Int32) * x1).toNatClampNeg) = (110 : Int32)
                  · rw [if_pos q30_7] at h
                    rw [q30_7]
                    refine lv_tableIn (tgt := 154) hx hb dX10_does_30 (by decide) (by decide) rfl (by decide) ?_
                    refine lv_aload_n hx hb dX10_does_154 rfl (lv_at hl 2 rfl) ?_
                    refine lv_iload_n hx hb dX10_does_155 rfl (lv_at hl 1 rfl) ?_
                    obtain ⟨μ12, r12, hc12, h⟩ := fw_b2_e h
                    refine fw_ret (va_runV (As := [.int (μ 0 24 (((4 : Int32) * x1) + (1 : Int32)).toNatClampNeg)]) (rest := []) ⟨hx, hb, hml, hown, hU⟩ (k_X10_washesAll l hE (μ 0 24 (((4 : Int32) * x1) + (1 : Int32)).toNatClampNeg) hc12) (cwV 1 hU (fw_gV m_1268 m_1270 ms_25 m_9 m_1271) rfl rfl rfl (by decide +kernel) ⟨(Nat.le_of_ble_eq_true rfl), (Nat.le_of_ble_eq_true rfl)⟩) ⟨fw_blind, fw_recv hK hP (fw_V0 (f := 18) (by decide) (by decide)) rfl rfl, fun U hU9 hW9 => ⟨rfl, fw_pre hK hP hSt hS U hU9 hW9⟩⟩ rfl rfl hl.1 rfl (lv_room (Nat.le_of_ble_eq_true rfl)) dX10_does_156 ⟨Nat.zero_le _, Nat.zero_le _⟩) hS (fun H locs hP hS => ?_)
                    exact W.iret (v := r12) hx hb hr (fw_ew (mk := Value.int) h hP hS) hS.2.2 dX10_does_159
                  · rw [if_neg q30_7] at h
                    by_cases q30_8 : (μ 0 24 ((4 : Int32) * x1).toNatClampNeg) = (111 : Int32)
                    · rw [if_pos q30_8] at h
                      rw [q30_8]
                      refine lv_tableIn (tgt := 139) hx hb dX10_does_30 (by decide) (by decide) rfl (by decide) ?_
                      refine lv_aload_n hx hb dX10_does_139 rfl (lv_at hl 2 rfl) ?_
                      refine lv_iload_n hx hb dX10_does_140 rfl (lv_at hl 1 rfl) ?_
                      obtain ⟨μ13, r13, hc13, h⟩ := fw_b2_e h
                      refine fw_ret (va_runV (As := [.int (μ 0 24 (((4 : Int32) * x1) + (1 : Int32)).toNatClampNeg)]) (rest := []) ⟨hx, hb, hml, hown, hU⟩ (k_X10_takes l hE (μ 0 24 (((4 : Int32) * x1) + (1 : Int32)).toNatClampNeg) hc13) (cwV 1 hU (fw_gV m_1251 m_1253 ms_23 m_9 m_1254) rfl rfl rfl (by decide +kernel) ⟨(Nat.le_of_ble_eq_true rfl), (Nat.le_of_ble_eq_true rfl)⟩) ⟨fw_blind, fw_recv hK hP (fw_V0 (f := 18) (by decide) (by decide)) rfl rfl, fun U hU9 hW9 => ⟨rfl, fw_pre hK hP hSt hS U hU9 hW9⟩⟩ rfl rfl hl.1 rfl (lv_room (Nat.le_of_ble_eq_true rfl)) dX10_does_141 ⟨Nat.zero_le _, Nat.zero_le _⟩) hS (fun H locs hP hS => ?_)
                      exact W.iret (v := r13) hx hb hr (fw_ew (mk := Value.int) h hP hS) hS.2.2 dX10_does_144
                    · rw [if_neg q30_8] at h
                      by_cases q30_9 : (μ 0 24 ((4 : Int32) * x1).toNatClampNeg) = (112 : Int32)
                      · rw [if_pos q30_9] at h
                        rw [q30_9]
                        refine lv_tableIn (tgt := 154) hx hb dX10_does_30 (by decide) (by decide) rfl (by decide) ?_
                        refine lv_aload_n hx hb dX10_does_154 rfl (lv_at hl 2 rfl) ?_
                        refine lv_iload_n hx hb dX10_does_155 rfl (lv_at hl 1 rfl) ?_
                        obtain ⟨μ14, r14, hc14, h⟩ := fw_b2_e h
                        refine fw_ret (va_runV (As := [.int (μ 0 24 (((4 : Int32) * x1) + (1 : Int32)).toNatClampNeg)]) (rest := []) ⟨hx, hb, hml, hown, hU⟩ (k_X10_washesAll l hE (μ 0 24 (((4 : Int32) * x1) + (1 : Int32)).toNatClampNeg) hc14) (cwV 1 hU (fw_gV m_1268 m_1270 ms_25 m_9 m_1271) rfl rfl rfl (by decide +kernel) ⟨(Nat.le_of_ble_eq_true rfl), (Nat.le_of_ble_eq_true rfl)⟩) ⟨fw_blind, fw_recv hK hP (fw_V0 (f := 18) (by decide) (by decide)) rfl rfl, fun U hU9 hW9 => ⟨rfl, fw_pre hK hP hSt hS U hU9 hW9⟩⟩ rfl rfl hl.1 rfl (lv_room (Nat.le_of_ble_eq_true rfl)) dX10_does_156 ⟨Nat.zero_le _, Nat.zero_le _⟩) hS (fun H locs hP hS => ?_)
                        exact W.iret (v := r14) hx hb hr (fw_ew (mk := Value.int) h hP hS) hS.2.2 dX10_does_159
                      · rw [if_neg q30_9] at h
                        by_cases q30_10 : (μ 0 24 ((4 : Int32) * x1).toNatClampNeg) = (113 : Int32)
                        · rw [if_pos q30_10] at h
                          rw [q30_10]
                          refine lv_tableIn (tgt := 154) hx hb dX10_does_30 (by decide) (by decide) rfl (by decide) ?_
                          refine lv_aload_n hx hb dX10_does_154 rfl (lv_at hl 2 rfl) ?_
                          refine lv_iload_n hx hb dX10_does_155 rfl (lv_at hl 1 rfl) ?_
                          obtain ⟨μ15, r15, hc15, h⟩ := fw_b2_e h
                          refine fw_ret (va_runV (As := [.int (μ 0 24 (((4 : Int32) * x1) + (1 : Int32)).toNatClampNeg)]) (rest := []) ⟨hx, hb, hml, hown, hU⟩ (k_X10_washesAll l hE (μ 0 24 (((4 : Int32) * x1) + (1 : Int32)).toNatClampNeg) hc15) (cwV 1 hU (fw_gV m_1268 m_1270 ms_25 m_9 m_1271) rfl rfl rfl (by decide +kernel) ⟨(Nat.le_of_ble_eq_true rfl), (Nat.le_of_ble_eq_true rfl)⟩) ⟨fw_blind, fw_recv hK hP (fw_V0 (f := 18) (by decide) (by decide)) rfl rfl, fun U hU9 hW9 => ⟨rfl, fw_pre hK hP hSt hS U hU9 hW9⟩⟩ rfl rfl hl.1 rfl (lv_room (Nat.le_of_ble_eq_true rfl)) dX10_does_156 ⟨Nat.zero_le _, Nat.zero_le _⟩) hS (fun H locs hP hS => ?_)
                          exact W.iret (v := r15) hx hb hr (fw_ew (mk := Value.int) h hP hS) hS.2.2 dX10_does_159
                        · rw [if_neg q30_10] at h
                          by_cases q30_11 : (μ 0 24 ((4 : Int32) * x1).toNatClampNeg) = (114 : Int32)
                          · rw [if_pos q30_11] at h
                            rw [q30_11]
                            refine lv_tableIn (tgt := 154) hx hb dX10_does_30 (by decide) (by decide) rfl (by decide) ?_
                            refine lv_aload_n hx hb dX10_does_154 rfl (lv_at hl 2 rfl) ?_
                            refine lv_iload_n hx hb dX10_does_155 rfl (lv_at hl 1 rfl) ?_
                            obtain ⟨μ16, r16, hc16, h⟩ := fw_b2_e h
                            refine fw_ret (va_runV (As := [.int (μ 0 24 (((4 : Int32) * x1) + (1 : Int32)).toNatClampNeg)]) (rest := []) ⟨hx, hb, hml, hown, hU⟩ (k_X10_washesAll l hE (μ 0 24 (((4 : Int32) * x1) + (1 : Int32)).toNatClampNeg) hc16) (cwV 1 hU (fw_gV m_1268 m_1270 ms_25 m_9 m_1271) rfl rfl rfl (by decide +kernel) ⟨(Nat.le_of_ble_eq_true rfl), (Nat.le_of_ble_eq_true rfl)⟩) ⟨fw_blind, fw_recv hK hP (fw_V0 (f := 18) (by decide) (by decide)) rfl rfl, fun U hU9 hW9 => ⟨rfl, fw_pre hK hP hSt hS U hU9 hW9⟩⟩ rfl rfl hl.1 rfl (lv_room (Nat.le_of_ble_eq_true rfl)) dX10_does_156 ⟨Nat.zero_le _, Nat.zero_le _⟩) hS (fun H locs hP hS => ?_)
                            exact W.iret (v := r16) hx hb hr (fw_ew (mk := Value.int) h hP hS) hS.2.2 dX10_does_159
                          · rw [if_neg q30_11] at h
                            by_cases q30_12 : (μ 0 24 ((4 : Int32) * x1).toNatClampNeg) = (115 : Int32)
                            · rw [if_pos q30_12] at h
                              rw [q30_12]
                              refine lv_tableIn (tgt := 96) hx hb dX10_does_30 (by decide) (by decide) rfl (by decide) ?_
                              refine lv_aload_n hx hb dX10_does_96 rfl (lv_at hl 2 rfl) ?_
                              refine lv_iload_n hx hb dX10_does_97 rfl (lv_at hl 1 rfl) ?_
                              refine lv_iconst (v := (1 : Int32)) hx hb dX10_does_98 (by decide) ?_
                              refine lv_iload_n hx hb dX10_does_99 rfl (lv_at hl 0 rfl) ?_
                              refine lv_aload_n hx hb dX10_does_100 rfl (lv_at hl 2 rfl) ?_
                              refine va_get (D := fw_D E) (ci := 8) (v := .ref (fw_ad E 0 24)) (C := RX10) (T := TX10) (N := 20) hx hb hU inU10 hown hK (fw_at hP (fw_V0 (f := 18) (by decide) (by decide))) 0 rfl rfl 8 (by decide) (hU (Cond.fieldLink RX10 25 "LaundryServiceModel" "told" "[I") m_1125) (fun _ h9 => h9) rfl dX10_does_101 ?_
                              refine lv_iconst (v := (4 : Int32)) hx hb dX10_does_104 (by decide) ?_
                              refine lv_iload_n hx hb dX10_does_105 rfl (lv_at hl 3 rfl) ?_
                              refine lv_imul hx hb dX10_does_106 ?_
                              refine lv_iconst (v := (3 : Int32)) hx hb dX10_does_107 (by decide) ?_
                              refine lv_iadd hx hb dX10_does_108 ?_
                              obtain ⟨g17, h⟩ := fw_g_e h
                              refine va_iald (D := fw_D E) hx hb hK (fw_at hP (fw_V0 (f := 24) (by decide) (by decide))) 0 0 rfl rfl (fw_in_e g17) dX10_does_109 ?_
                              obtain ⟨μ18, r18, hc18, h⟩ := fw_b2_e h
                              refine fw_ret (va_runV (As := [.int (μ 0 24 (((4 : Int32) * x1) + (1 : Int32)).toNatClampNeg), .int (1 : Int32), .int (μ 0 24 (((4 : Int32) * x1) + (2 : Int32)).toNatClampNeg), .int (μ 0 24 (((4 : Int32) * x1) + (3 : Int32)).toNatClampNeg)]) (rest := []) ⟨hx, hb, hml, hown, hU⟩ (k_X10_brings l hE (μ 0 24 (((4 : Int32) * x1) + (1 : Int32)).toNatClampNeg) (1 : Int32) (μ 0 24 (((4 : Int32) * x1) + (2 : Int32)).toNatClampNeg) (μ 0 24 (((4 : Int32) * x1) + (3 : Int32)).toNatClampNeg) hc18) (cwV 4 hU (fw_gV m_1190 m_1192 ms_12 m_9 m_1193) rfl rfl rfl (by decide +kernel) ⟨(Nat.le_of_ble_eq_true rfl), (Nat.le_of_ble_eq_true rfl)⟩) ⟨fw_blind, fw_recv hK hP (fw_V0 (f := 18) (by decide) (by decide)) rfl rfl, fun U hU9 hW9 => ⟨rfl, fw_pre hK hP hSt hS U hU9 hW9⟩⟩ rfl rfl hl.1 rfl (lv_room (Nat.le_of_ble_eq_true rfl)) dX10_does_110 ⟨Nat.zero_le _, Nat.zero_le _⟩) hS (fun H locs hP hS => ?_)
                              exact W.iret (v := r18) hx hb hr (fw_ew (mk := Value.int) h hP hS) hS.2.2 dX10_does_113
                            · rw [if_neg q30_12] at h
                              have hsw : (μ 0 24 ((4 : Int32) * x1).toNatClampNeg).toInt < 103 ∨ 115 < (μ 0 24 ((4 : Int32) * x1).toNatClampNeg).toInt := by
                                have e0 : ¬ (μ 0 24 ((4 : Int32) * x1).toNatClampNeg).toInt = 103 := fun z => q30_0 (Int32.toInt_inj.mp z)
                                have e1 : ¬ (μ 0 24 ((4 : Int32) * x1).toNatClampNeg).toInt = 104 := fun z => q30_1 (Int32.toInt_inj.mp z)
                                have e2 : ¬ (μ 0 24 ((4 : Int32) * x1).toNatClampNeg).toInt = 105 := fun z => q30_2 (Int32.toInt_inj.mp z)
                                have e3 : ¬ (μ 0 24 ((4 : Int32) * x1).toNatClampNeg).toInt = 106 := fun z => q30_3 (Int32.toInt_inj.mp z)
                                have e4 : ¬ (μ 0 24 ((4 : Int32) * x1).toNatClampNeg).toInt = 107 := fun z => q30_4 (Int32.toInt_inj.mp z)
                                have e5 : ¬ (μ 0 24 ((4 : Int32) * x1).toNatClampNeg).toInt = 108 := fun z => q30_5 (Int32.toInt_inj.mp z)
                                have e6 : ¬ (μ 0 24 ((4 : Int32) * x1).toNatClampNeg).toInt = 109 := fun z => q30_6 (Int32.toInt_inj.mp z)
                                have e7 : ¬ (μ 0 24 ((4 : Int32) * x1).toNatClampNeg).toInt = 110 := fun z => q30_7 (Int32.toInt_inj.mp z)
                                have e8 : ¬ (μ 0 24 ((4 : Int32) * x1).toNatClampNeg).toInt = 111 := fun z => q30_8 (Int32.toInt_inj.mp z)
                                have e9 : ¬ (μ 0 24 ((4 : Int32) * x1).toNatClampNeg).toInt = 112 := fun z => q30_9 (Int32.toInt_inj.mp z)
                                have e10 : ¬ (μ 0 24 ((4 : Int32) * x1).toNatClampNeg).toInt = 113 := fun z => q30_10 (Int32.toInt_inj.mp z)
                                have e11 : ¬ (μ 0 24 ((4 : Int32) * x1).toNatClampNeg).toInt = 114 := fun z => q30_11 (Int32.toInt_inj.mp z)
                                have e12 : ¬ (μ 0 24 ((4 : Int32) * x1).toNatClampNeg).toInt = 115 := fun z => q30_12 (Int32.toInt_inj.mp z)
                                omega
                              refine lv_tableOut (tgt := 154) hx hb dX10_does_30 hsw (by decide) ?_
                              refine lv_aload_n hx hb dX10_does_154 rfl (lv_at hl 2 rfl) ?_
                              refine lv_iload_n hx hb dX10_does_155 rfl (lv_at hl 1 rfl) ?_
                              obtain ⟨μ19, r19, hc19, h⟩ := fw_b2_e h
                              refine fw_ret (va_runV (As := [.int (μ 0 24 (((4 : Int32) * x1) + (1 : Int32)).toNatClampNeg)]) (rest := []) ⟨hx, hb, hml, hown, hU⟩ (k_X10_washesAll l hE (μ 0 24 (((4 : Int32) * x1) + (1 : Int32)).toNatClampNeg) hc19) (cwV 1 hU (fw_gV m_1268 m_1270 ms_25 m_9 m_1271) rfl rfl rfl (by decide +kernel) ⟨(Nat.le_of_ble_eq_true rfl), (Nat.le_of_ble_eq_true rfl)⟩) ⟨fw_blind, fw_recv hK hP (fw_V0 (f := 18) (by decide) (by decide)) rfl rfl, fun U hU9 hW9 => ⟨rfl, fw_pre hK hP hSt hS U hU9 hW9⟩⟩ rfl rfl hl.1 rfl (lv_room (Nat.le_of_ble_eq_true rfl)) dX10_does_156 ⟨Nat.zero_le _, Nat.zero_le _⟩) hS (fun H locs hP hS => ?_)
                              exact W.iret (v := r19) hx hb hr (fw_ew (mk := Value.int) h hP hS) hS.2.2 dX10_does_159
  subst ha
  have hl := lv_entry ([.ref (fw_ad E 0 18), .int x1]) (n := 4) (Nat.le_of_ble_eq_true rfl)
  rw [lg_entry_eq]
  generalize (lg_sl ([.ref (fw_ad E 0 18), .int x1]) ++ List.replicate (4 - (lg_sl ([.ref (fw_ad E 0 18), .int x1])).length) Slot.unset).toArray = ls at hl ⊢
  exact EN s.heap [] ls hP va_S.rf hl
set_option maxHeartbeats 4000000 in
set_option maxRecDepth 100000 in
theorem k_X10_runCommands (l : Launch) {E : fw_E} {o : Int64} {d : UInt64} (hE : fw_ok E) {μ μ' : fw_M} {r : Int32} (h : f_X10_runCommands μ = some (μ', r)) : Met l yX10_runCommands (fw_ws yX10_runCommands cX10_runCommands 3 (some .int)) ({ frames := 8, cells := 0, slots := 0, locals := 175 } : Room) (va_Pc [.ref (fw_ad E 0 18)] (fw_Pre E o d μ)) (fw_Q E o d (some (.int r)) μ') 0 0 (fw_A E) := by
  refine Met.ofW (cc := cX10_runCommands) (maxL := 3) (ret := (some .int)) (by decide) rfl ?_
  intro p e s m args below meth c s₁ B hml hv
  obtain ⟨ha, hK, hP, hSt⟩ := hv
  have hx := B.exec
  have hb := B.bytes
  have hr := B.returns
  have hts := atoms_spec (ws := fw_ws yX10_runCommands cX10_runCommands 3 (some .int)) B.pre
  have hU : ∀ w ∈ fw_U, w.before args s = true := fun w hw => hts w (List.mem_cons_of_mem _ hw)
  have hown : s.vm.findClass RX10 = some m.cls := findClass_of_methodNamed B.named
  have hlocks := B.notSynchronized
  have L125 : ∀ (n : Nat) (μ : fw_M) (x1 : Int32) (x2 : Int32) (H : Heap) (locs : List Loc) (ls : Array Slot), f_X10_runCommands_L125 n μ x1 x2 = some (μ', r) → fw_P E o d μ H → va_S (fw_A E) s.heap H locs → lv_has ls 3 [(0, .ref (fw_ad E 0 18)), (1, .int x1), (2, .int x2)] → W p l e (headSpec (fw_ws yX10_runCommands cX10_runCommands 3 (some .int)) ({ frames := 8, cells := 0, slots := 0, locals := 175 } : Room)).room s m args below meth c H locs 0 0 (MQ below (fw_Q E o d (some (.int r)) μ') args s 0 0 (fw_A E)) (F0 m 125 ls []) := by
    intro n125
    induction n125 with
    | zero => intro μ x1 x2 H locs ls h; rw [f_X10_runCommands_L125] at h; cases h
    | succ n125 ih125 =>
      intro μ x1 x2 H locs ls h hP hS hl
      rw [f_X10_runCommands_L125] at h
      refine lv_iload_n hx hb dX10_runCommands_125 rfl (lv_at hl 2 rfl) ?_
      refine lv_bipush (v := (104 : Int32)) hx hb dX10_runCommands_126 (by decide) ?_
      refine lv_icmp_ge (tgt := 149) hx hb dX10_runCommands_128 (by decide) (fun c23 => ?_) (fun c23 => ?_)
      · rw [if_pos c23] at h
        refine lv_aload_n hx hb dX10_runCommands_149 rfl (lv_at hl 0 rfl) ?_
        refine lv_iload_n hx hb dX10_runCommands_150 rfl (lv_at hl 1 rfl) ?_
        refine fw_put (ci := 8) (v := .int x1) (ty := .int) (C := RX10) (T := TX10) (N := 20) hx hb hU inU10 tyX10 tyX10_ok nmX10 hown hK hP hE hS (fw_V0 (f := 18) (by decide) (by decide)) rfl rfl 14 (by decide) (hU (Cond.fieldLink RX10 38 "LaundryServiceModel" "failedAt" "I") m_1131) (fun _ h9 => h9) rfl (by decide +kernel) rfl rfl (Nat.le_of_ble_eq_true rfl) 14 x1 (by rw [fw_u_c]; rfl) dX10_runCommands_151 (fun H locs hP hS => ?_)
        obtain ⟨μ24, eμ24, h⟩ := fw_l_e h
        rw [← eμ24] at hP
        refine lv_aload_n hx hb dX10_runCommands_154 rfl (lv_at hl 0 rfl) ?_
        refine lv_iconst (v := (2 : Int32)) hx hb dX10_runCommands_155 (by decide) ?_
        obtain ⟨μ25, r25, hc25, h⟩ := fw_b2_e h
        refine fw_ret (va_runV (As := [.int (2 : Int32)]) (rest := []) ⟨hx, hb, hml, hown, hU⟩ (k_X10_fails l hE (2 : Int32) hc25) (cwV 1 hU (fw_gV m_1216 m_1218 ms_17 m_9 m_1219) rfl rfl rfl (by decide +kernel) ⟨(Nat.le_of_ble_eq_true rfl), (Nat.le_of_ble_eq_true rfl)⟩) ⟨fw_blind, fw_recv hK hP (fw_V0 (f := 18) (by decide) (by decide)) rfl rfl, fun U hU9 hW9 => ⟨rfl, fw_pre hK hP hSt hS U hU9 hW9⟩⟩ rfl rfl hl.1 rfl (lv_room (Nat.le_of_ble_eq_true rfl)) dX10_runCommands_156 ⟨Nat.zero_le _, Nat.zero_le _⟩) hS (fun H locs hP hS => ?_)
        exact W.iret (v := r25) hx hb hr (fw_ew (mk := Value.int) h hP hS) hS.2.2 dX10_runCommands_159
      · rw [if_neg c23] at h
        refine lv_aload_n hx hb dX10_runCommands_131 rfl (lv_at hl 0 rfl) ?_
        refine va_get (D := fw_D E) (ci := 8) (v := .ref (fw_ad E 0 19)) (C := RX10) (T := TX10) (N := 20) hx hb hU inU10 hown hK (fw_at hP (fw_V0 (f := 18) (by decide) (by decide))) 0 rfl rfl 1 (by decide) (hU (Cond.fieldLink RX10 7 "LaundryServiceModel" "s" "[I") m_1118) (fun _ h9 => h9) rfl dX10_runCommands_132 ?_
        refine lv_iload_n hx hb dX10_runCommands_135 rfl (lv_at hl 2 rfl) ?_
        refine lv_aload_n hx hb dX10_runCommands_136 rfl (lv_at hl 0 rfl) ?_
        refine va_get (D := fw_D E) (ci := 8) (v := .ref (fw_ad E 0 20)) (C := RX10) (T := TX10) (N := 20) hx hb hU inU10 hown hK (fw_at hP (fw_V0 (f := 18) (by decide) (by decide))) 0 rfl rfl 2 (by decide) (hU (Cond.fieldLink RX10 13 "LaundryServiceModel" "frame" "[I") m_1119) (fun _ h9 => h9) rfl dX10_runCommands_137 ?_
        refine lv_iload_n hx hb dX10_runCommands_140 rfl (lv_at hl 2 rfl) ?_
        obtain ⟨g26, h⟩ := fw_g_e h
        refine va_iald (D := fw_D E) hx hb hK (fw_at hP (fw_V0 (f := 20) (by decide) (by decide))) 0 0 rfl rfl (fw_in_e g26) dX10_runCommands_141 ?_
        refine fw_iast (n := 104) hx hb hK hP hE hS (fw_V0 (f := 19) (by decide) (by decide)) (fun _ => rfl) (fw_in_e g26) dX10_runCommands_142 (fun H locs hP hS => ?_)
        obtain ⟨μ27, eμ27, h⟩ := fw_l_e h
        rw [← eμ27] at hP
        refine lv_iinc (v := (x2 + (1 : Int32))) (lv' := [(2, .int (x2 + (1 : Int32))), (0, .ref (fw_ad E 0 18)), (1, .int x1)]) hx hb dX10_runCommands_143 hl (k := 2) rfl rfl (by decide) rfl (fun ls hl => ?_)
        refine lv_goto (tgt := 125) hx hb dX10_runCommands_146 (by decide) ?_
        exact ih125 μ27 x1 (x2 + (1 : Int32)) H locs ls h hP hS (lv_sub hl [1, 2, 0] rfl)
  have L104 : ∀ (n : Nat) (μ : fw_M) (x1 : Int32) (H : Heap) (locs : List Loc) (ls : Array Slot), f_X10_runCommands_L104 n μ x1 = some (μ', r) → fw_P E o d μ H → va_S (fw_A E) s.heap H locs → lv_has ls 3 [(0, .ref (fw_ad E 0 18)), (1, .int x1)] → W p l e (headSpec (fw_ws yX10_runCommands cX10_runCommands 3 (some .int)) ({ frames := 8, cells := 0, slots := 0, locals := 175 } : Room)).room s m args below meth c H locs 0 0 (MQ below (fw_Q E o d (some (.int r)) μ') args s 0 0 (fw_A E)) (F0 m 104 ls []) := by
    intro n104
    induction n104 with
    | zero => intro μ x1 H locs ls h; rw [f_X10_runCommands_L104] at h; cases h
    | succ n104 ih104 =>
      intro μ x1 H locs ls h hP hS hl
      rw [f_X10_runCommands_L104] at h
      refine lv_iload_n hx hb dX10_runCommands_104 rfl (lv_at hl 1 rfl) ?_
      refine lv_aload_n hx hb dX10_runCommands_105 rfl (lv_at hl 0 rfl) ?_
      refine va_get (D := fw_D E) (ci := 8) (v := .int (μ 0 18 18)) (C := RX10) (T := TX10) (N := 20) hx hb hU inU10 hown hK (fw_at hP (fw_V0 (f := 18) (by decide) (by decide))) 0 rfl rfl 18 (by decide) (hU (Cond.fieldLink RX10 213 "LaundryServiceModel" "commands" "I") m_1135) (fun _ h9 => h9) rfl dX10_runCommands_106 ?_
      refine lv_icmp_ge (tgt := 166) hx hb dX10_runCommands_109 (by decide) (fun c19 => ?_) (fun c19 => ?_)
      · rw [if_pos c19] at h
        refine lv_aload_n hx hb dX10_runCommands_166 rfl (lv_at hl 0 rfl) ?_
        refine lv_aload_n hx hb dX10_runCommands_167 rfl (lv_at hl 0 rfl) ?_
        refine va_get (D := fw_D E) (ci := 8) (v := .int (μ 0 18 18)) (C := RX10) (T := TX10) (N := 20) hx hb hU inU10 hown hK (fw_at hP (fw_V0 (f := 18) (by decide) (by decide))) 0 rfl rfl 18 (by decide) (hU (Cond.fieldLink RX10 213 "LaundryServiceModel" "commands" "I") m_1135) (fun _ h9 => h9) rfl dX10_runCommands_168 ?_
        obtain ⟨μ20, r20, hc20, h⟩ := fw_b2_e h
        refine fw_ret (va_runV (As := [.int (μ 0 18 18)]) (rest := []) ⟨hx, hb, hml, hown, hU⟩ (k_X10_changed l hE (μ 0 18 18) hc20) (cwV 1 hU (fw_gV m_1212 m_1214 ms_16 m_9 m_1215) rfl rfl rfl (by decide +kernel) ⟨(Nat.le_of_ble_eq_true rfl), (Nat.le_of_ble_eq_true rfl)⟩) ⟨fw_blind, fw_recv hK hP (fw_V0 (f := 18) (by decide) (by decide)) rfl rfl, fun U hU9 hW9 => ⟨rfl, fw_pre hK hP hSt hS U hU9 hW9⟩⟩ rfl rfl hl.1 rfl (lv_room (Nat.le_of_ble_eq_true rfl)) dX10_runCommands_171 ⟨Nat.zero_le _, Nat.zero_le _⟩) hS (fun H locs hP hS => ?_)
        exact W.iret (v := r20) hx hb hr (fw_ew (mk := Value.int) h hP hS) hS.2.2 dX10_runCommands_174
      · rw [if_neg c19] at h
        refine lv_aload_n hx hb dX10_runCommands_112 rfl (lv_at hl 0 rfl) ?_
        refine lv_iload_n hx hb dX10_runCommands_113 rfl (lv_at hl 1 rfl) ?_
        obtain ⟨μ21, r21, hc21, h⟩ := fw_b2_e h
        refine fw_ret (va_runV (As := [.int x1]) (rest := []) ⟨hx, hb, hml, hown, hU⟩ (k_X10_does l hE x1 hc21) (cwV 1 hU (fw_gV m_1517 m_1519 ms_45 m_9 m_1520) rfl rfl rfl (by decide +kernel) ⟨(Nat.le_of_ble_eq_true rfl), (Nat.le_of_ble_eq_true rfl)⟩) ⟨fw_blind, fw_recv hK hP (fw_V0 (f := 18) (by decide) (by decide)) rfl rfl, fun U hU9 hW9 => ⟨rfl, fw_pre hK hP hSt hS U hU9 hW9⟩⟩ rfl rfl hl.1 rfl (lv_room (Nat.le_of_ble_eq_true rfl)) dX10_runCommands_114 ⟨Nat.zero_le _, Nat.zero_le _⟩) hS (fun H locs hP hS => ?_)
        refine lv_if_ne (tgt := 123) hx hb dX10_runCommands_117 (by decide) (fun c22 => ?_) (fun c22 => ?_)
        · rw [if_neg c22] at h
          refine lv_iconst (v := (0 : Int32)) hx hb dX10_runCommands_123 (by decide) ?_
          refine lv_istore_n (lv' := [(2, .int (0 : Int32)), (0, .ref (fw_ad E 0 18)), (1, .int x1)]) hx hb dX10_runCommands_124 rfl hl (by decide) rfl (fun ls hl => ?_)
          exact L125 1000 μ21 x1 (0 : Int32) H locs ls h hP hS (lv_sub hl [1, 2, 0] rfl)
        · rw [if_pos c22] at h
          refine lv_goto (tgt := 160) hx hb dX10_runCommands_120 (by decide) ?_
          refine lv_iinc (v := (x1 + (1 : Int32))) (lv' := [(1, .int (x1 + (1 : Int32))), (0, .ref (fw_ad E 0 18))]) hx hb dX10_runCommands_160 hl (k := 1) rfl rfl (by decide) rfl (fun ls hl => ?_)
          refine lv_goto (tgt := 104) hx hb dX10_runCommands_163 (by decide) ?_
          exact ih104 μ21 (x1 + (1 : Int32)) H locs ls h hP hS (lv_sub hl [1, 0] rfl)
  have J70 : ∀ (μ : fw_M) (H : Heap) (locs : List Loc) (ls : Array Slot), f_X10_runCommands_J70 μ = some (μ', r) → fw_P E o d μ H → va_S (fw_A E) s.heap H locs → lv_has ls 3 [(0, .ref (fw_ad E 0 18))] → W p l e (headSpec (fw_ws yX10_runCommands cX10_runCommands 3 (some .int)) ({ frames := 8, cells := 0, slots := 0, locals := 175 } : Room)).room s m args below meth c H locs 0 0 (MQ below (fw_Q E o d (some (.int r)) μ') args s 0 0 (fw_A E)) (F0 m 70 ls []) := by
    intro μ H locs ls h hP hS hl
    unfold f_X10_runCommands_J70 at h
    refine lv_aload_n hx hb dX10_runCommands_70 rfl (lv_at hl 0 rfl) ?_
    refine va_get (D := fw_D E) (ci := 8) (v := .int (μ 0 18 19)) (C := RX10) (T := TX10) (N := 20) hx hb hU inU10 hown hK (fw_at hP (fw_V0 (f := 18) (by decide) (by decide))) 0 rfl rfl 19 (by decide) (hU (Cond.fieldLink RX10 200 "LaundryServiceModel" "isWrong" "Z") m_1136) (fun _ h9 => h9) rfl dX10_runCommands_71 ?_
    refine lv_if_ne (tgt := 88) hx hb dX10_runCommands_74 (by decide) (fun c13 => ?_) (fun c13 => ?_)
    · rw [if_neg c13] at h
      refine lv_aload_n hx hb dX10_runCommands_88 rfl (lv_at hl 0 rfl) ?_
      refine lv_aload_n hx hb dX10_runCommands_89 rfl (lv_at hl 0 rfl) ?_
      refine va_get (D := fw_D E) (ci := 8) (v := .int (μ 0 18 16)) (C := RX10) (T := TX10) (N := 20) hx hb hU inU10 hown hK (fw_at hP (fw_V0 (f := 18) (by decide) (by decide))) 0 rfl rfl 16 (by decide) (hU (Cond.fieldLink RX10 191 "LaundryServiceModel" "spot" "I") m_1133) (fun _ h9 => h9) rfl dX10_runCommands_90 ?_
      refine fw_put (ci := 8) (v := .int (μ 0 18 16)) (ty := .int) (C := RX10) (T := TX10) (N := 20) hx hb hU inU10 tyX10 tyX10_ok nmX10 hown hK hP hE hS (fw_V0 (f := 18) (by decide) (by decide)) rfl rfl 13 (by decide) (hU (Cond.fieldLink RX10 34 "LaundryServiceModel" "faultAt" "I") m_1130) (fun _ h9 => h9) rfl (by decide +kernel) rfl rfl (Nat.le_of_ble_eq_true rfl) 13 (μ 0 18 16) (by rw [fw_u_c]; rfl) dX10_runCommands_93 (fun H locs hP hS => ?_)
      obtain ⟨μ17, eμ17, h⟩ := fw_l_e h
      rw [← eμ17] at hP
      refine lv_aload_n hx hb dX10_runCommands_96 rfl (lv_at hl 0 rfl) ?_
      refine lv_iconst (v := (1 : Int32)) hx hb dX10_runCommands_97 (by decide) ?_
      obtain ⟨μ18, r18, hc18, h⟩ := fw_b2_e h
      refine fw_ret (va_runV (As := [.int (1 : Int32)]) (rest := []) ⟨hx, hb, hml, hown, hU⟩ (k_X10_fails l hE (1 : Int32) hc18) (cwV 1 hU (fw_gV m_1216 m_1218 ms_17 m_9 m_1219) rfl rfl rfl (by decide +kernel) ⟨(Nat.le_of_ble_eq_true rfl), (Nat.le_of_ble_eq_true rfl)⟩) ⟨fw_blind, fw_recv hK hP (fw_V0 (f := 18) (by decide) (by decide)) rfl rfl, fun U hU9 hW9 => ⟨rfl, fw_pre hK hP hSt hS U hU9 hW9⟩⟩ rfl rfl hl.1 rfl (lv_room (Nat.le_of_ble_eq_true rfl)) dX10_runCommands_98 ⟨Nat.zero_le _, Nat.zero_le _⟩) hS (fun H locs hP hS => ?_)
      exact W.iret (v := r18) hx hb hr (fw_ew (mk := Value.int) h hP hS) hS.2.2 dX10_runCommands_101
    · rw [if_pos c13] at h
      refine lv_aload_n hx hb dX10_runCommands_77 rfl (lv_at hl 0 rfl) ?_
      refine va_get (D := fw_D E) (ci := 8) (v := .int (μ 0 18 16)) (C := RX10) (T := TX10) (N := 20) hx hb hU inU10 hown hK (fw_at hP (fw_V0 (f := 18) (by decide) (by decide))) 0 rfl rfl 16 (by decide) (hU (Cond.fieldLink RX10 191 "LaundryServiceModel" "spot" "I") m_1133) (fun _ h9 => h9) rfl dX10_runCommands_78 ?_
      refine lv_aload_n hx hb dX10_runCommands_81 rfl (lv_at hl 0 rfl) ?_
      refine va_get (D := fw_D E) (ci := 8) (v := .int (μ 0 18 17)) (C := RX10) (T := TX10) (N := 20) hx hb hU inU10 hown hK (fw_at hP (fw_V0 (f := 18) (by decide) (by decide))) 0 rfl rfl 17 (by decide) (hU (Cond.fieldLink RX10 194 "LaundryServiceModel" "end" "I") m_1134) (fun _ h9 => h9) rfl dX10_runCommands_82 ?_
      refine lv_icmp_ge (tgt := 102) hx hb dX10_runCommands_85 (by decide) (fun c14 => ?_) (fun c14 => ?_)
      · rw [if_pos c14] at h
        refine lv_iconst (v := (0 : Int32)) hx hb dX10_runCommands_102 (by decide) ?_
        refine lv_istore_n (lv' := [(1, .int (0 : Int32)), (0, .ref (fw_ad E 0 18))]) hx hb dX10_runCommands_103 rfl hl (by decide) rfl (fun ls hl => ?_)
        exact L104 1000 μ (0 : Int32) H locs ls h hP hS (lv_sub hl [1, 0] rfl)
      · rw [if_neg c14] at h
        refine lv_aload_n hx hb dX10_runCommands_88 rfl (lv_at hl 0 rfl) ?_
        refine lv_aload_n hx hb dX10_runCommands_89 rfl (lv_at hl 0 rfl) ?_
        refine va_get (D := fw_D E) (ci := 8) (v := .int (μ 0 18 16)) (C := RX10) (T := TX10) (N := 20) hx hb hU inU10 hown hK (fw_at hP (fw_V0 (f := 18) (by decide) (by decide))) 0 rfl rfl 16 (by decide) (hU (Cond.fieldLink RX10 191 "LaundryServiceModel" "spot" "I") m_1133) (fun _ h9 => h9) rfl dX10_runCommands_90 ?_
        refine fw_put (ci := 8) (v := .int (μ 0 18 16)) (ty := .int) (C := RX10) (T := TX10) (N := 20) hx hb hU inU10 tyX10 tyX10_ok nmX10 hown hK hP hE hS (fw_V0 (f := 18) (by decide) (by decide)) rfl rfl 13 (by decide) (hU (Cond.fieldLink RX10 34 "LaundryServiceModel" "faultAt" "I") m_1130) (fun _ h9 => h9) rfl (by decide +kernel) rfl rfl (Nat.le_of_ble_eq_true rfl) 13 (μ 0 18 16) (by rw [fw_u_c]; rfl) dX10_runCommands_93 (fun H locs hP hS => ?_)
        obtain ⟨μ15, eμ15, h⟩ := fw_l_e h
        rw [← eμ15] at hP
        refine lv_aload_n hx hb dX10_runCommands_96 rfl (lv_at hl 0 rfl) ?_
        refine lv_iconst (v := (1 : Int32)) hx hb dX10_runCommands_97 (by decide) ?_
        obtain ⟨μ16, r16, hc16, h⟩ := fw_b2_e h
        refine fw_ret (va_runV (As := [.int (1 : Int32)]) (rest := []) ⟨hx, hb, hml, hown, hU⟩ (k_X10_fails l hE (1 : Int32) hc16) (cwV 1 hU (fw_gV m_1216 m_1218 ms_17 m_9 m_1219) rfl rfl rfl (by decide +kernel) ⟨(Nat.le_of_ble_eq_true rfl), (Nat.le_of_ble_eq_true rfl)⟩) ⟨fw_blind, fw_recv hK hP (fw_V0 (f := 18) (by decide) (by decide)) rfl rfl, fun U hU9 hW9 => ⟨rfl, fw_pre hK hP hSt hS U hU9 hW9⟩⟩ rfl rfl hl.1 rfl (lv_room (Nat.le_of_ble_eq_true rfl)) dX10_runCommands_98 ⟨Nat.zero_le _, Nat.zero_le _⟩) hS (fun H locs hP hS => ?_)
        exact W.iret (v := r16) hx hb hr (fw_ew (mk := Value.int) h hP hS) hS.2.2 dX10_runCommands_101
  have L36 : ∀ (n : Nat) (μ : fw_M) (H : Heap) (locs : List Loc) (ls : Array Slot), f_X10_runCommands_L36 n μ = some (μ', r) → fw_P E o d μ H → va_S (fw_A E) s.heap H locs → lv_has ls 3 [(0, .ref (fw_ad E 0 18))] → W p l e (headSpec (fw_ws yX10_runCommands cX10_runCommands 3 (some .int)) ({ frames := 8, cells := 0, slots := 0, locals := 175 } : Room)).room s m args below meth c H locs 0 0 (MQ below (fw_Q E o d (some (.int r)) μ') args s 0 0 (fw_A E)) (F0 m 36 ls []) := by
    intro n36
    induction n36 with
    | zero => intro μ H locs ls h; rw [f_X10_runCommands_L36] at h; cases h
    | succ n36 ih36 =>
      intro μ H locs ls h hP hS hl
      rw [f_X10_runCommands_L36] at h
      refine lv_aload_n hx hb dX10_runCommands_36 rfl (lv_at hl 0 rfl) ?_
      refine va_get (D := fw_D E) (ci := 8) (v := .int (μ 0 18 19)) (C := RX10) (T := TX10) (N := 20) hx hb hU inU10 hown hK (fw_at hP (fw_V0 (f := 18) (by decide) (by decide))) 0 rfl rfl 19 (by decide) (hU (Cond.fieldLink RX10 200 "LaundryServiceModel" "isWrong" "Z") m_1136) (fun _ h9 => h9) rfl dX10_runCommands_37 ?_
      refine lv_if_ne (tgt := 70) hx hb dX10_runCommands_40 (by decide) (fun c8 => ?_) (fun c8 => ?_)
      · rw [if_neg c8] at h
        exact J70 μ H locs ls h hP hS (lv_sub hl [0] rfl)
      · rw [if_pos c8] at h
        refine lv_aload_n hx hb dX10_runCommands_43 rfl (lv_at hl 0 rfl) ?_
        refine lv_iconst (v := (0 : Int32)) hx hb dX10_runCommands_44 (by decide) ?_
        obtain ⟨r9, hc9, h⟩ := fw_b1_e h
        refine fw_ret (va_runV (As := [.int (0 : Int32)]) (rest := []) ⟨hx, hb, hml, hown, hU⟩ (k_X10_here l hE (0 : Int32) hc9) (cwV 1 hU (fw_gV m_1493 m_1495 ms_41 m_9 m_1496) rfl rfl rfl (by decide +kernel) ⟨(Nat.le_of_ble_eq_true rfl), (Nat.le_of_ble_eq_true rfl)⟩) ⟨fw_blind, fw_recv hK hP (fw_V0 (f := 18) (by decide) (by decide)) rfl rfl, fun U hU9 hW9 => ⟨rfl, fw_pre hK hP hSt hS U hU9 hW9⟩⟩ rfl rfl hl.1 rfl (lv_room (Nat.le_of_ble_eq_true rfl)) dX10_runCommands_45 ⟨Nat.zero_le _, Nat.zero_le _⟩) hS (fun H locs hP hS => ?_)
        refine lv_bipush (v := (59 : Int32)) hx hb dX10_runCommands_48 (by decide) ?_
        refine lv_icmp_ne (tgt := 70) hx hb dX10_runCommands_50 (by decide) (fun c10 => ?_) (fun c10 => ?_)
        · rw [if_neg c10] at h
          exact J70 μ H locs ls h hP hS (lv_sub hl [0] rfl)
        · rw [if_pos c10] at h
          refine lv_aload_n hx hb dX10_runCommands_53 rfl (lv_at hl 0 rfl) ?_
          refine lv_dup hx hb dX10_runCommands_54 rfl ?_
          refine va_get (D := fw_D E) (ci := 8) (v := .int (μ 0 18 16)) (C := RX10) (T := TX10) (N := 20) hx hb hU inU10 hown hK (fw_at hP (fw_V0 (f := 18) (by decide) (by decide))) 0 rfl rfl 16 (by decide) (hU (Cond.fieldLink RX10 191 "LaundryServiceModel" "spot" "I") m_1133) (fun _ h9 => h9) rfl dX10_runCommands_55 ?_
          refine lv_iconst (v := (1 : Int32)) hx hb dX10_runCommands_58 (by decide) ?_
          refine lv_iadd hx hb dX10_runCommands_59 ?_
          refine fw_put (ci := 8) (v := .int ((μ 0 18 16) + (1 : Int32))) (ty := .int) (C := RX10) (T := TX10) (N := 20) hx hb hU inU10 tyX10 tyX10_ok nmX10 hown hK hP hE hS (fw_V0 (f := 18) (by decide) (by decide)) rfl rfl 16 (by decide) (hU (Cond.fieldLink RX10 191 "LaundryServiceModel" "spot" "I") m_1133) (fun _ h9 => h9) rfl (by decide +kernel) rfl rfl (Nat.le_of_ble_eq_true rfl) 16 ((μ 0 18 16) + (1 : Int32)) (by rw [fw_u_c]; rfl) dX10_runCommands_60 (fun H locs hP hS => ?_)
          obtain ⟨μ11, eμ11, h⟩ := fw_l_e h
          rw [← eμ11] at hP
          refine lv_aload_n hx hb dX10_runCommands_63 rfl (lv_at hl 0 rfl) ?_
          obtain ⟨μ12, r12, hc12, h⟩ := fw_b2_e h
          refine fw_retv (va_runV (As := []) (rest := []) ⟨hx, hb, hml, hown, hU⟩ (k_X10_readsOne l hE hc12) (cwV 0 hU (fw_gV m_1489 m_1491 ms_40 m_9 m_1492) rfl rfl rfl (by decide +kernel) ⟨(Nat.le_of_ble_eq_true rfl), (Nat.le_of_ble_eq_true rfl)⟩) ⟨fw_blind, fw_recv hK hP (fw_V0 (f := 18) (by decide) (by decide)) rfl rfl, fun U hU9 hW9 => ⟨rfl, fw_pre hK hP hSt hS U hU9 hW9⟩⟩ rfl rfl hl.1 rfl (lv_room (Nat.le_of_ble_eq_true rfl)) dX10_runCommands_64 ⟨Nat.zero_le _, Nat.zero_le _⟩) hS (fun H locs hP hS => ?_)
          refine lv_goto (tgt := 36) hx hb dX10_runCommands_67 (by decide) ?_
          exact ih36 μ12 H locs ls h hP hS (lv_sub hl [0] rfl)
  have EN : ∀ (H : Heap) (locs : List Loc) (ls : Array Slot), fw_P E o d μ H → va_S (fw_A E) s.heap H locs → lv_has ls 3 [(0, .ref (fw_ad E 0 18))] → W p l e (headSpec (fw_ws yX10_runCommands cX10_runCommands 3 (some .int)) ({ frames := 8, cells := 0, slots := 0, locals := 175 } : Room)).room s m args below meth c H locs 0 0 (MQ below (fw_Q E o d (some (.int r)) μ') args s 0 0 (fw_A E)) (F0 m 0 ls []) := by
    intro H locs ls hP hS hl
    unfold f_X10_runCommands at h
    refine lv_aload_n hx hb dX10_runCommands_0 rfl (lv_at hl 0 rfl) ?_
    obtain ⟨μ1, r1, hc1, h⟩ := fw_b2_e h
    refine fw_retv (va_runV (As := []) (rest := []) ⟨hx, hb, hml, hown, hU⟩ (k_X10_remembers l hE hc1) (cwV 0 hU (fw_gV m_1186 m_1188 ms_11 m_9 m_1189) rfl rfl rfl (by decide +kernel) ⟨(Nat.le_of_ble_eq_true rfl), (Nat.le_of_ble_eq_true rfl)⟩) ⟨fw_blind, fw_recv hK hP (fw_V0 (f := 18) (by decide) (by decide)) rfl rfl, fun U hU9 hW9 => ⟨rfl, fw_pre hK hP hSt hS U hU9 hW9⟩⟩ rfl rfl hl.1 rfl (lv_room (Nat.le_of_ble_eq_true rfl)) dX10_runCommands_1 ⟨Nat.zero_le _, Nat.zero_le _⟩) hS (fun H locs hP hS => ?_)
    refine lv_aload_n hx hb dX10_runCommands_4 rfl (lv_at hl 0 rfl) ?_
    refine lv_iconst (v := (0 : Int32)) hx hb dX10_runCommands_5 (by decide) ?_
    refine fw_put (ci := 8) (v := .int (0 : Int32)) (ty := .int) (C := RX10) (T := TX10) (N := 20) hx hb hU inU10 tyX10 tyX10_ok nmX10 hown hK hP hE hS (fw_V0 (f := 18) (by decide) (by decide)) rfl rfl 16 (by decide) (hU (Cond.fieldLink RX10 191 "LaundryServiceModel" "spot" "I") m_1133) (fun _ h9 => h9) rfl (by decide +kernel) rfl rfl (Nat.le_of_ble_eq_true rfl) 16 (0 : Int32) (by rw [fw_u_c]; rfl) dX10_runCommands_6 (fun H locs hP hS => ?_)
    obtain ⟨μ2, eμ2, h⟩ := fw_l_e h
    rw [← eμ2] at hP
    refine lv_aload_n hx hb dX10_runCommands_9 rfl (lv_at hl 0 rfl) ?_
    refine lv_aload_n hx hb dX10_runCommands_10 rfl (lv_at hl 0 rfl) ?_
    refine va_get (D := fw_D E) (ci := 8) (v := .int (μ2 0 18 11)) (C := RX10) (T := TX10) (N := 20) hx hb hU inU10 hown hK (fw_at hP (fw_V0 (f := 18) (by decide) (by decide))) 0 rfl rfl 11 (by decide) (hU (Cond.fieldLink RX10 188 "LaundryServiceModel" "length" "I") m_1128) (fun _ h9 => h9) rfl dX10_runCommands_11 ?_
    refine fw_put (ci := 8) (v := .int (μ2 0 18 11)) (ty := .int) (C := RX10) (T := TX10) (N := 20) hx hb hU inU10 tyX10 tyX10_ok nmX10 hown hK hP hE hS (fw_V0 (f := 18) (by decide) (by decide)) rfl rfl 17 (by decide) (hU (Cond.fieldLink RX10 194 "LaundryServiceModel" "end" "I") m_1134) (fun _ h9 => h9) rfl (by decide +kernel) rfl rfl (Nat.le_of_ble_eq_true rfl) 17 (μ2 0 18 11) (by rw [fw_u_c]; rfl) dX10_runCommands_14 (fun H locs hP hS => ?_)
    obtain ⟨μ3, eμ3, h⟩ := fw_l_e h
    rw [← eμ3] at hP
    refine lv_aload_n hx hb dX10_runCommands_17 rfl (lv_at hl 0 rfl) ?_
    refine lv_iconst (v := (0 : Int32)) hx hb dX10_runCommands_18 (by decide) ?_
    refine fw_put (ci := 8) (v := .int (0 : Int32)) (ty := .int) (C := RX10) (T := TX10) (N := 20) hx hb hU inU10 tyX10 tyX10_ok nmX10 hown hK hP hE hS (fw_V0 (f := 18) (by decide) (by decide)) rfl rfl 11 (by decide) (hU (Cond.fieldLink RX10 188 "LaundryServiceModel" "length" "I") m_1128) (fun _ h9 => h9) rfl (by decide +kernel) rfl rfl (Nat.le_of_ble_eq_true rfl) 11 (0 : Int32) (by rw [fw_u_c]; rfl) dX10_runCommands_19 (fun H locs hP hS => ?_)
    obtain ⟨μ4, eμ4, h⟩ := fw_l_e h
    rw [← eμ4] at hP
    refine lv_aload_n hx hb dX10_runCommands_22 rfl (lv_at hl 0 rfl) ?_
    refine lv_iconst (v := (0 : Int32)) hx hb dX10_runCommands_23 (by decide) ?_
    refine fw_put (ci := 8) (v := .int (0 : Int32)) (ty := .int) (C := RX10) (T := TX10) (N := 20) hx hb hU inU10 tyX10 tyX10_ok nmX10 hown hK hP hE hS (fw_V0 (f := 18) (by decide) (by decide)) rfl rfl 18 (by decide) (hU (Cond.fieldLink RX10 213 "LaundryServiceModel" "commands" "I") m_1135) (fun _ h9 => h9) rfl (by decide +kernel) rfl rfl (Nat.le_of_ble_eq_true rfl) 18 (0 : Int32) (by rw [fw_u_c]; rfl) dX10_runCommands_24 (fun H locs hP hS => ?_)
    obtain ⟨μ5, eμ5, h⟩ := fw_l_e h
    rw [← eμ5] at hP
    refine lv_aload_n hx hb dX10_runCommands_27 rfl (lv_at hl 0 rfl) ?_
    refine lv_iconst (v := (0 : Int32)) hx hb dX10_runCommands_28 (by decide) ?_
    refine fw_put (ci := 8) (v := .int (0 : Int32)) (ty := .boolean) (C := RX10) (T := TX10) (N := 20) hx hb hU inU10 tyX10 tyX10_ok nmX10 hown hK hP hE hS (fw_V0 (f := 18) (by decide) (by decide)) rfl rfl 19 (by decide) (hU (Cond.fieldLink RX10 200 "LaundryServiceModel" "isWrong" "Z") m_1136) (fun _ h9 => h9) rfl (by decide +kernel) rfl rfl (Nat.le_of_ble_eq_true rfl) 19 (0 : Int32) (by rw [fw_u_c]; rfl) dX10_runCommands_29 (fun H locs hP hS => ?_)
    obtain ⟨μ6, eμ6, h⟩ := fw_l_e h
    rw [← eμ6] at hP
    refine lv_aload_n hx hb dX10_runCommands_32 rfl (lv_at hl 0 rfl) ?_
    obtain ⟨μ7, r7, hc7, h⟩ := fw_b2_e h
    refine fw_retv (va_runV (As := []) (rest := []) ⟨hx, hb, hml, hown, hU⟩ (k_X10_readsOne l hE hc7) (cwV 0 hU (fw_gV m_1489 m_1491 ms_40 m_9 m_1492) rfl rfl rfl (by decide +kernel) ⟨(Nat.le_of_ble_eq_true rfl), (Nat.le_of_ble_eq_true rfl)⟩) ⟨fw_blind, fw_recv hK hP (fw_V0 (f := 18) (by decide) (by decide)) rfl rfl, fun U hU9 hW9 => ⟨rfl, fw_pre hK hP hSt hS U hU9 hW9⟩⟩ rfl rfl hl.1 rfl (lv_room (Nat.le_of_ble_eq_true rfl)) dX10_runCommands_33 ⟨Nat.zero_le _, Nat.zero_le _⟩) hS (fun H locs hP hS => ?_)
    exact L36 1000 μ7 H locs ls h hP hS (lv_sub hl [0] rfl)
  subst ha
  have hl := lv_entry ([.ref (fw_ad E 0 18)]) (n := 3) (Nat.le_of_ble_eq_true rfl)
  rw [lg_entry_eq]
  generalize (lg_sl ([.ref (fw_ad E 0 18)]) ++ List.replicate (3 - (lg_sl ([.ref (fw_ad E 0 18)])).length) Slot.unset).toArray = ls at hl ⊢
  exact EN s.heap [] ls hP va_S.rf hl
