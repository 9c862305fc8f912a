/-! contracts, laid by wip/whole/lay.py out of the bytecode listing -/
set_option maxHeartbeats 4000000 in
set_option maxRecDepth 100000 in
theorem k_X7_copyFrom (l : Launch) {E : fw_E} {o : Int64} {d : UInt64} (hE : fw_ok E) {μ μ' : fw_M} {j0 j1 : Nat} (hj0 : j0 < 12) (hj1 : j1 < 12) {r : Unit} (h : f_X7_copyFrom μ j0 j1 = some (μ', r)) : Met l yX7_copyFrom (fw_ws yX7_copyFrom cX7_copyFrom 3 none) ({ frames := 0, cells := 0, slots := 0, locals := 0 } : Room) (va_Pc [.ref (fw_ad E j0 0), .ref (fw_ad E j1 0)] (fw_Pre E o d μ)) (fw_Q E o d none μ') 0 0 (fw_A E) := by
  refine Met.ofW (cc := cX7_copyFrom) (maxL := 3) (ret := none) (by decide) rfl ?_
  intro p e s m args below meth c s₁ B hml hv
  obtain ⟨ha, hK, hP, hSt⟩ := hv
  have hx := B.exec
  have hb := B.bytes
  have hr := B.returns
  have hts := atoms_spec (ws := fw_ws yX7_copyFrom cX7_copyFrom 3 none) B.pre
  have hU : ∀ w ∈ fw_U, w.before args s = true := fun w hw => hts w (List.mem_cons_of_mem _ hw)
  have hown : s.vm.findClass RX7 = some m.cls := findClass_of_methodNamed B.named
  have hlocks := B.notSynchronized
  have L123 : ∀ (n : Nat) (μ : fw_M) (x2 : Int32) (H : Heap) (locs : List Loc) (ls : Array Slot), f_X7_copyFrom_L123 j0 j1 n μ x2 = some (μ', r) → fw_P E o d μ H → va_S (fw_A E) s.heap H locs → lv_has ls 3 [(0, .ref (fw_ad E j0 0)), (1, .ref (fw_ad E j1 0)), (2, .int x2)] → W p l e (headSpec (fw_ws yX7_copyFrom cX7_copyFrom 3 none) ({ frames := 0, cells := 0, slots := 0, locals := 0 } : Room)).room s m args below meth c H locs 0 0 (MQ below (fw_Q E o d none μ') args s 0 0 (fw_A E)) (F0 m 123 ls []) := by
    intro n123
    induction n123 with
    | zero => intro μ x2 H locs ls h; rw [f_X7_copyFrom_L123] at h; cases h
    | succ n123 ih123 =>
      intro μ x2 H locs ls h hP hS hl
      rw [f_X7_copyFrom_L123] at h
      refine lv_iload_n hx hb dX7_copyFrom_123 rfl (lv_at hl 2 rfl) ?_
      refine lv_iconst (v := (4 : Int32)) hx hb dX7_copyFrom_124 (by decide) ?_
      refine lv_icmp_ge (tgt := 146) hx hb dX7_copyFrom_125 (by decide) (fun c13 => ?_) (fun c13 => ?_)
      · rw [if_pos c13] at h
        refine lv_aload_n hx hb dX7_copyFrom_146 rfl (lv_at hl 0 rfl) ?_
        refine lv_aload_n hx hb dX7_copyFrom_147 rfl (lv_at hl 1 rfl) ?_
        refine va_get (D := fw_D E) (ci := 6) (v := .int (μ j1 0 9)) (C := RX7) (T := TX7) (N := 10) hx hb hU inU7 hown hK (fw_at hP (fw_Vs (f := 0) (by decide) hj1)) 0 rfl rfl 9 (by decide) (hU (Cond.fieldLink RX7 42 "LaundryService$State" "runCount" "I") m_74) (fun _ h9 => h9) rfl dX7_copyFrom_148 ?_
        refine fw_put (ci := 6) (v := .int (μ j1 0 9)) (ty := .int) (C := RX7) (T := TX7) (N := 10) hx hb hU inU7 tyX7 tyX7_ok nmX7 hown hK hP hE hS (fw_Vs (f := 0) (by decide) hj0) rfl rfl 9 (by decide) (hU (Cond.fieldLink RX7 42 "LaundryService$State" "runCount" "I") m_74) (fun _ h9 => h9) rfl (by decide +kernel) rfl rfl (Nat.le_of_ble_eq_true rfl) 9 (μ j1 0 9) (by rw [fw_u_c]; rfl) dX7_copyFrom_151 (fun H locs hP hS => ?_)
        obtain ⟨μ14, eμ14, h⟩ := fw_l_e h
        rw [← eμ14] at hP
        exact W.vret hx hb hr (fw_ev h hP hS) hS.2.2 dX7_copyFrom_154
      · rw [if_neg c13] at h
        refine lv_aload_n hx hb dX7_copyFrom_128 rfl (lv_at hl 0 rfl) ?_
        refine va_get (D := fw_D E) (ci := 6) (v := .ref (fw_ad E j0 8)) (C := RX7) (T := TX7) (N := 10) hx hb hU inU7 hown hK (fw_at hP (fw_Vs (f := 0) (by decide) hj0)) 0 rfl rfl 8 (by decide) (hU (Cond.fieldLink RX7 38 "LaundryService$State" "paid" "[F") m_72) (fun _ h9 => h9) rfl dX7_copyFrom_129 ?_
        refine lv_iload_n hx hb dX7_copyFrom_132 rfl (lv_at hl 2 rfl) ?_
        refine lv_aload_n hx hb dX7_copyFrom_133 rfl (lv_at hl 1 rfl) ?_
        refine va_get (D := fw_D E) (ci := 6) (v := .ref (fw_ad E j1 8)) (C := RX7) (T := TX7) (N := 10) hx hb hU inU7 hown hK (fw_at hP (fw_Vs (f := 0) (by decide) hj1)) 0 rfl rfl 8 (by decide) (hU (Cond.fieldLink RX7 38 "LaundryService$State" "paid" "[F") m_72) (fun _ h9 => h9) rfl dX7_copyFrom_134 ?_
        refine lv_iload_n hx hb dX7_copyFrom_137 rfl (lv_at hl 2 rfl) ?_
        obtain ⟨g15, h⟩ := fw_g_e h
        refine va_fald (D := fw_D E) hx hb hK (fw_at hP (fw_Vs (f := 8) (by decide) hj1)) 0 3 rfl rfl (fw_in_e g15) dX7_copyFrom_138 ?_
        refine fw_fast (n := 4) hx hb hK hP hE hS (fw_Vs (f := 8) (by decide) hj0) (fun _ => rfl) (fw_in_e g15) dX7_copyFrom_139 (fun H locs hP hS => ?_)
        obtain ⟨μ16, eμ16, h⟩ := fw_l_e h
        rw [← eμ16] at hP
        refine lv_iinc (v := (x2 + (1 : Int32))) (lv' := [(2, .int (x2 + (1 : Int32))), (0, .ref (fw_ad E j0 0)), (1, .ref (fw_ad E j1 0))]) hx hb dX7_copyFrom_140 hl (k := 2) rfl rfl (by decide) rfl (fun ls hl => ?_)
        refine lv_goto (tgt := 123) hx hb dX7_copyFrom_143 (by decide) ?_
        exact ih123 μ16 (x2 + (1 : Int32)) H locs ls h hP hS (lv_sub hl [1, 2, 0] rfl)
  have L98 : ∀ (n : Nat) (μ : fw_M) (x2 : Int32) (H : Heap) (locs : List Loc) (ls : Array Slot), f_X7_copyFrom_L98 j0 j1 n μ x2 = some (μ', r) → fw_P E o d μ H → va_S (fw_A E) s.heap H locs → lv_has ls 3 [(0, .ref (fw_ad E j0 0)), (1, .ref (fw_ad E j1 0)), (2, .int x2)] → W p l e (headSpec (fw_ws yX7_copyFrom cX7_copyFrom 3 none) ({ frames := 0, cells := 0, slots := 0, locals := 0 } : Room)).room s m args below meth c H locs 0 0 (MQ below (fw_Q E o d none μ') args s 0 0 (fw_A E)) (F0 m 98 ls []) := by
    intro n98
    induction n98 with
    | zero => intro μ x2 H locs ls h; rw [f_X7_copyFrom_L98] at h; cases h
    | succ n98 ih98 =>
      intro μ x2 H locs ls h hP hS hl
      rw [f_X7_copyFrom_L98] at h
      refine lv_iload_n hx hb dX7_copyFrom_98 rfl (lv_at hl 2 rfl) ?_
      refine lv_iconst (v := (2 : Int32)) hx hb dX7_copyFrom_99 (by decide) ?_
      refine lv_icmp_ge (tgt := 121) hx hb dX7_copyFrom_100 (by decide) (fun c10 => ?_) (fun c10 => ?_)
      · rw [if_pos c10] at h
        refine lv_iconst (v := (0 : Int32)) hx hb dX7_copyFrom_121 (by decide) ?_
        refine lv_istore_n (lv' := [(2, .int (0 : Int32)), (0, .ref (fw_ad E j0 0)), (1, .ref (fw_ad E j1 0))]) hx hb dX7_copyFrom_122 rfl hl (by decide) rfl (fun ls hl => ?_)
        exact L123 1000 μ (0 : Int32) H locs ls h hP hS (lv_sub hl [1, 2, 0] rfl)
      · rw [if_neg c10] at h
        refine lv_aload_n hx hb dX7_copyFrom_103 rfl (lv_at hl 0 rfl) ?_
        refine va_get (D := fw_D E) (ci := 6) (v := .ref (fw_ad E j0 7)) (C := RX7) (T := TX7) (N := 10) hx hb hU inU7 hown hK (fw_at hP (fw_Vs (f := 0) (by decide) hj0)) 0 rfl rfl 7 (by decide) (hU (Cond.fieldLink RX7 35 "LaundryService$State" "halves" "[I") m_69) (fun _ h9 => h9) rfl dX7_copyFrom_104 ?_
        refine lv_iload_n hx hb dX7_copyFrom_107 rfl (lv_at hl 2 rfl) ?_
        refine lv_aload_n hx hb dX7_copyFrom_108 rfl (lv_at hl 1 rfl) ?_
        refine va_get (D := fw_D E) (ci := 6) (v := .ref (fw_ad E j1 7)) (C := RX7) (T := TX7) (N := 10) hx hb hU inU7 hown hK (fw_at hP (fw_Vs (f := 0) (by decide) hj1)) 0 rfl rfl 7 (by decide) (hU (Cond.fieldLink RX7 35 "LaundryService$State" "halves" "[I") m_69) (fun _ h9 => h9) rfl dX7_copyFrom_109 ?_
        refine lv_iload_n hx hb dX7_copyFrom_112 rfl (lv_at hl 2 rfl) ?_
        obtain ⟨g11, h⟩ := fw_g_e h
        refine va_iald (D := fw_D E) hx hb hK (fw_at hP (fw_Vs (f := 7) (by decide) hj1)) 0 0 rfl rfl (fw_in_e g11) dX7_copyFrom_113 ?_
        refine fw_iast (n := 2) hx hb hK hP hE hS (fw_Vs (f := 7) (by decide) hj0) (fun _ => rfl) (fw_in_e g11) dX7_copyFrom_114 (fun H locs hP hS => ?_)
        obtain ⟨μ12, eμ12, h⟩ := fw_l_e h
        rw [← eμ12] at hP
        refine lv_iinc (v := (x2 + (1 : Int32))) (lv' := [(2, .int (x2 + (1 : Int32))), (0, .ref (fw_ad E j0 0)), (1, .ref (fw_ad E j1 0))]) hx hb dX7_copyFrom_115 hl (k := 2) rfl rfl (by decide) rfl (fun ls hl => ?_)
        refine lv_goto (tgt := 98) hx hb dX7_copyFrom_118 (by decide) ?_
        exact ih98 μ12 (x2 + (1 : Int32)) H locs ls h hP hS (lv_sub hl [1, 2, 0] rfl)
  have L2 : ∀ (n : Nat) (μ : fw_M) (x2 : Int32) (H : Heap) (locs : List Loc) (ls : Array Slot), f_X7_copyFrom_L2 j0 j1 n μ x2 = some (μ', r) → fw_P E o d μ H → va_S (fw_A E) s.heap H locs → lv_has ls 3 [(0, .ref (fw_ad E j0 0)), (1, .ref (fw_ad E j1 0)), (2, .int x2)] → W p l e (headSpec (fw_ws yX7_copyFrom cX7_copyFrom 3 none) ({ frames := 0, cells := 0, slots := 0, locals := 0 } : Room)).room s m args below meth c H locs 0 0 (MQ below (fw_Q E o d none μ') args s 0 0 (fw_A E)) (F0 m 2 ls []) := by
    intro n2
    induction n2 with
    | zero => intro μ x2 H locs ls h; rw [f_X7_copyFrom_L2] at h; cases h
    | succ n2 ih2 =>
      intro μ x2 H locs ls h hP hS hl
      rw [f_X7_copyFrom_L2] at h
      refine lv_iload_n hx hb dX7_copyFrom_2 rfl (lv_at hl 2 rfl) ?_
      refine lv_aload_n hx hb dX7_copyFrom_3 rfl (lv_at hl 1 rfl) ?_
      refine va_get (D := fw_D E) (ci := 6) (v := .int (μ j1 0 6)) (C := RX7) (T := TX7) (N := 10) hx hb hU inU7 hown hK (fw_at hP (fw_Vs (f := 0) (by decide) hj1)) 0 rfl rfl 6 (by decide) (hU (Cond.fieldLink RX7 31 "LaundryService$State" "garmentCount" "I") m_65) (fun _ h9 => h9) rfl dX7_copyFrom_4 ?_
      refine lv_icmp_ge (tgt := 88) hx hb dX7_copyFrom_7 (by decide) (fun c1 => ?_) (fun c1 => ?_)
      · rw [if_pos c1] at h
        refine lv_aload_n hx hb dX7_copyFrom_88 rfl (lv_at hl 0 rfl) ?_
        refine lv_aload_n hx hb dX7_copyFrom_89 rfl (lv_at hl 1 rfl) ?_
        refine va_get (D := fw_D E) (ci := 6) (v := .int (μ j1 0 6)) (C := RX7) (T := TX7) (N := 10) hx hb hU inU7 hown hK (fw_at hP (fw_Vs (f := 0) (by decide) hj1)) 0 rfl rfl 6 (by decide) (hU (Cond.fieldLink RX7 31 "LaundryService$State" "garmentCount" "I") m_65) (fun _ h9 => h9) rfl dX7_copyFrom_90 ?_
        refine fw_put (ci := 6) (v := .int (μ j1 0 6)) (ty := .int) (C := RX7) (T := TX7) (N := 10) hx hb hU inU7 tyX7 tyX7_ok nmX7 hown hK hP hE hS (fw_Vs (f := 0) (by decide) hj0) rfl rfl 6 (by decide) (hU (Cond.fieldLink RX7 31 "LaundryService$State" "garmentCount" "I") m_65) (fun _ h9 => h9) rfl (by decide +kernel) rfl rfl (Nat.le_of_ble_eq_true rfl) 6 (μ j1 0 6) (by rw [fw_u_c]; rfl) dX7_copyFrom_93 (fun H locs hP hS => ?_)
        obtain ⟨μ2, eμ2, h⟩ := fw_l_e h
        rw [← eμ2] at hP
        refine lv_iconst (v := (0 : Int32)) hx hb dX7_copyFrom_96 (by decide) ?_
        refine lv_istore_n (lv' := [(2, .int (0 : Int32)), (0, .ref (fw_ad E j0 0)), (1, .ref (fw_ad E j1 0))]) hx hb dX7_copyFrom_97 rfl hl (by decide) rfl (fun ls hl => ?_)
        exact L98 1000 μ2 (0 : Int32) H locs ls h hP hS (lv_sub hl [1, 2, 0] rfl)
      · rw [if_neg c1] at h
        refine lv_aload_n hx hb dX7_copyFrom_10 rfl (lv_at hl 0 rfl) ?_
        refine va_get (D := fw_D E) (ci := 6) (v := .ref (fw_ad E j0 1)) (C := RX7) (T := TX7) (N := 10) hx hb hU inU7 hown hK (fw_at hP (fw_Vs (f := 0) (by decide) hj0)) 0 rfl rfl 0 (by decide) (hU (Cond.fieldLink RX7 9 "LaundryService$State" "clients" "[I") m_45) (fun _ h9 => h9) rfl dX7_copyFrom_11 ?_
        refine lv_iload_n hx hb dX7_copyFrom_14 rfl (lv_at hl 2 rfl) ?_
        refine lv_aload_n hx hb dX7_copyFrom_15 rfl (lv_at hl 1 rfl) ?_
        refine va_get (D := fw_D E) (ci := 6) (v := .ref (fw_ad E j1 1)) (C := RX7) (T := TX7) (N := 10) hx hb hU inU7 hown hK (fw_at hP (fw_Vs (f := 0) (by decide) hj1)) 0 rfl rfl 0 (by decide) (hU (Cond.fieldLink RX7 9 "LaundryService$State" "clients" "[I") m_45) (fun _ h9 => h9) rfl dX7_copyFrom_16 ?_
        refine lv_iload_n hx hb dX7_copyFrom_19 rfl (lv_at hl 2 rfl) ?_
        obtain ⟨g3, h⟩ := fw_g_e h
        refine va_iald (D := fw_D E) hx hb hK (fw_at hP (fw_Vs (f := 1) (by decide) hj1)) 0 0 rfl rfl (fw_in_e g3) dX7_copyFrom_20 ?_
        refine fw_iast (n := 16) hx hb hK hP hE hS (fw_Vs (f := 1) (by decide) hj0) (fun _ => rfl) (fw_in_e g3) dX7_copyFrom_21 (fun H locs hP hS => ?_)
        obtain ⟨μ4, eμ4, h⟩ := fw_l_e h
        rw [← eμ4] at hP
        refine lv_aload_n hx hb dX7_copyFrom_22 rfl (lv_at hl 0 rfl) ?_
        refine va_get (D := fw_D E) (ci := 6) (v := .ref (fw_ad E j0 2)) (C := RX7) (T := TX7) (N := 10) hx hb hU inU7 hown hK (fw_at hP (fw_Vs (f := 0) (by decide) hj0)) 0 rfl rfl 1 (by decide) (hU (Cond.fieldLink RX7 15 "LaundryService$State" "socks" "[Z") m_48) (fun _ h9 => h9) rfl dX7_copyFrom_23 ?_
        refine lv_iload_n hx hb dX7_copyFrom_26 rfl (lv_at hl 2 rfl) ?_
        refine lv_aload_n hx hb dX7_copyFrom_27 rfl (lv_at hl 1 rfl) ?_
        refine va_get (D := fw_D E) (ci := 6) (v := .ref (fw_ad E j1 2)) (C := RX7) (T := TX7) (N := 10) hx hb hU inU7 hown hK (fw_at hP (fw_Vs (f := 0) (by decide) hj1)) 0 rfl rfl 1 (by decide) (hU (Cond.fieldLink RX7 15 "LaundryService$State" "socks" "[Z") m_48) (fun _ h9 => h9) rfl dX7_copyFrom_28 ?_
        refine lv_iload_n hx hb dX7_copyFrom_31 rfl (lv_at hl 2 rfl) ?_
        refine va_zald (D := fw_D E) hx hb hK (fw_at hP (fw_Vs (f := 2) (by decide) hj1)) 0 1 rfl rfl (fw_in_e g3) dX7_copyFrom_32 ?_
        refine fw_zast (n := 16) hx hb hK hP hE hS (fw_Vs (f := 2) (by decide) hj0) (fun _ => rfl) (fw_in_e g3) dX7_copyFrom_33 (fun H locs hP hS => ?_)
        obtain ⟨μ5, eμ5, h⟩ := fw_l_e h
        rw [← eμ5] at hP
        refine lv_aload_n hx hb dX7_copyFrom_34 rfl (lv_at hl 0 rfl) ?_
        refine va_get (D := fw_D E) (ci := 6) (v := .ref (fw_ad E j0 3)) (C := RX7) (T := TX7) (N := 10) hx hb hU inU7 hown hK (fw_at hP (fw_Vs (f := 0) (by decide) hj0)) 0 rfl rfl 2 (by decide) (hU (Cond.fieldLink RX7 19 "LaundryService$State" "colours" "[I") m_52) (fun _ h9 => h9) rfl dX7_copyFrom_35 ?_
        refine lv_iload_n hx hb dX7_copyFrom_38 rfl (lv_at hl 2 rfl) ?_
        refine lv_aload_n hx hb dX7_copyFrom_39 rfl (lv_at hl 1 rfl) ?_
        refine va_get (D := fw_D E) (ci := 6) (v := .ref (fw_ad E j1 3)) (C := RX7) (T := TX7) (N := 10) hx hb hU inU7 hown hK (fw_at hP (fw_Vs (f := 0) (by decide) hj1)) 0 rfl rfl 2 (by decide) (hU (Cond.fieldLink RX7 19 "LaundryService$State" "colours" "[I") m_52) (fun _ h9 => h9) rfl dX7_copyFrom_40 ?_
        refine lv_iload_n hx hb dX7_copyFrom_43 rfl (lv_at hl 2 rfl) ?_
        refine va_iald (D := fw_D E) hx hb hK (fw_at hP (fw_Vs (f := 3) (by decide) hj1)) 0 0 rfl rfl (fw_in_e g3) dX7_copyFrom_44 ?_
        refine fw_iast (n := 16) hx hb hK hP hE hS (fw_Vs (f := 3) (by decide) hj0) (fun _ => rfl) (fw_in_e g3) dX7_copyFrom_45 (fun H locs hP hS => ?_)
        obtain ⟨μ6, eμ6, h⟩ := fw_l_e h
        rw [← eμ6] at hP
        refine lv_aload_n hx hb dX7_copyFrom_46 rfl (lv_at hl 0 rfl) ?_
        refine va_get (D := fw_D E) (ci := 6) (v := .ref (fw_ad E j0 4)) (C := RX7) (T := TX7) (N := 10) hx hb hU inU7 hown hK (fw_at hP (fw_Vs (f := 0) (by decide) hj0)) 0 rfl rfl 3 (by decide) (hU (Cond.fieldLink RX7 22 "LaundryService$State" "stains" "[I") m_56) (fun _ h9 => h9) rfl dX7_copyFrom_47 ?_
        refine lv_iload_n hx hb dX7_copyFrom_50 rfl (lv_at hl 2 rfl) ?_
        refine lv_aload_n hx hb dX7_copyFrom_51 rfl (lv_at hl 1 rfl) ?_
        refine va_get (D := fw_D E) (ci := 6) (v := .ref (fw_ad E j1 4)) (C := RX7) (T := TX7) (N := 10) hx hb hU inU7 hown hK (fw_at hP (fw_Vs (f := 0) (by decide) hj1)) 0 rfl rfl 3 (by decide) (hU (Cond.fieldLink RX7 22 "LaundryService$State" "stains" "[I") m_56) (fun _ h9 => h9) rfl dX7_copyFrom_52 ?_
        refine lv_iload_n hx hb dX7_copyFrom_55 rfl (lv_at hl 2 rfl) ?_
        refine va_iald (D := fw_D E) hx hb hK (fw_at hP (fw_Vs (f := 4) (by decide) hj1)) 0 0 rfl rfl (fw_in_e g3) dX7_copyFrom_56 ?_
        refine fw_iast (n := 16) hx hb hK hP hE hS (fw_Vs (f := 4) (by decide) hj0) (fun _ => rfl) (fw_in_e g3) dX7_copyFrom_57 (fun H locs hP hS => ?_)
        obtain ⟨μ7, eμ7, h⟩ := fw_l_e h
        rw [← eμ7] at hP
        refine lv_aload_n hx hb dX7_copyFrom_58 rfl (lv_at hl 0 rfl) ?_
        refine va_get (D := fw_D E) (ci := 6) (v := .ref (fw_ad E j0 5)) (C := RX7) (T := TX7) (N := 10) hx hb hU inU7 hown hK (fw_at hP (fw_Vs (f := 0) (by decide) hj0)) 0 rfl rfl 4 (by decide) (hU (Cond.fieldLink RX7 25 "LaundryService$State" "places" "[I") m_59) (fun _ h9 => h9) rfl dX7_copyFrom_59 ?_
        refine lv_iload_n hx hb dX7_copyFrom_62 rfl (lv_at hl 2 rfl) ?_
        refine lv_aload_n hx hb dX7_copyFrom_63 rfl (lv_at hl 1 rfl) ?_
        refine va_get (D := fw_D E) (ci := 6) (v := .ref (fw_ad E j1 5)) (C := RX7) (T := TX7) (N := 10) hx hb hU inU7 hown hK (fw_at hP (fw_Vs (f := 0) (by decide) hj1)) 0 rfl rfl 4 (by decide) (hU (Cond.fieldLink RX7 25 "LaundryService$State" "places" "[I") m_59) (fun _ h9 => h9) rfl dX7_copyFrom_64 ?_
        refine lv_iload_n hx hb dX7_copyFrom_67 rfl (lv_at hl 2 rfl) ?_
        refine va_iald (D := fw_D E) hx hb hK (fw_at hP (fw_Vs (f := 5) (by decide) hj1)) 0 0 rfl rfl (fw_in_e g3) dX7_copyFrom_68 ?_
        refine fw_iast (n := 16) hx hb hK hP hE hS (fw_Vs (f := 5) (by decide) hj0) (fun _ => rfl) (fw_in_e g3) dX7_copyFrom_69 (fun H locs hP hS => ?_)
        obtain ⟨μ8, eμ8, h⟩ := fw_l_e h
        rw [← eμ8] at hP
        refine lv_aload_n hx hb dX7_copyFrom_70 rfl (lv_at hl 0 rfl) ?_
        refine va_get (D := fw_D E) (ci := 6) (v := .ref (fw_ad E j0 6)) (C := RX7) (T := TX7) (N := 10) hx hb hU inU7 hown hK (fw_at hP (fw_Vs (f := 0) (by decide) hj0)) 0 rfl rfl 5 (by decide) (hU (Cond.fieldLink RX7 28 "LaundryService$State" "washes" "[I") m_62) (fun _ h9 => h9) rfl dX7_copyFrom_71 ?_
        refine lv_iload_n hx hb dX7_copyFrom_74 rfl (lv_at hl 2 rfl) ?_
        refine lv_aload_n hx hb dX7_copyFrom_75 rfl (lv_at hl 1 rfl) ?_
        refine va_get (D := fw_D E) (ci := 6) (v := .ref (fw_ad E j1 6)) (C := RX7) (T := TX7) (N := 10) hx hb hU inU7 hown hK (fw_at hP (fw_Vs (f := 0) (by decide) hj1)) 0 rfl rfl 5 (by decide) (hU (Cond.fieldLink RX7 28 "LaundryService$State" "washes" "[I") m_62) (fun _ h9 => h9) rfl dX7_copyFrom_76 ?_
        refine lv_iload_n hx hb dX7_copyFrom_79 rfl (lv_at hl 2 rfl) ?_
        refine va_iald (D := fw_D E) hx hb hK (fw_at hP (fw_Vs (f := 6) (by decide) hj1)) 0 0 rfl rfl (fw_in_e g3) dX7_copyFrom_80 ?_
        refine fw_iast (n := 16) hx hb hK hP hE hS (fw_Vs (f := 6) (by decide) hj0) (fun _ => rfl) (fw_in_e g3) dX7_copyFrom_81 (fun H locs hP hS => ?_)
        obtain ⟨μ9, eμ9, h⟩ := fw_l_e h
        rw [← eμ9] at hP
        refine lv_iinc (v := (x2 + (1 : Int32))) (lv' := [(2, .int (x2 + (1 : Int32))), (0, .ref (fw_ad E j0 0)), (1, .ref (fw_ad E j1 0))]) hx hb dX7_copyFrom_82 hl (k := 2) rfl rfl (by decide) rfl (fun ls hl => ?_)
        refine lv_goto (tgt := 2) hx hb dX7_copyFrom_85 (by decide) ?_
        exact ih2 μ9 (x2 + (1 : Int32)) H locs ls h hP hS (lv_sub hl [1, 2, 0] rfl)
  have EN : ∀ (H : Heap) (locs : List Loc) (ls : Array Slot), fw_P E o d μ H → va_S (fw_A E) s.heap H locs → lv_has ls 3 [(0, .ref (fw_ad E j0 0)), (1, .ref (fw_ad E j1 0))] → W p l e (headSpec (fw_ws yX7_copyFrom cX7_copyFrom 3 none) ({ frames := 0, cells := 0, slots := 0, locals := 0 } : Room)).room s m args below meth c H locs 0 0 (MQ below (fw_Q E o d none μ') args s 0 0 (fw_A E)) (F0 m 0 ls []) := by
    intro H locs ls hP hS hl
    unfold f_X7_copyFrom at h
    refine lv_iconst (v := (0 : Int32)) hx hb dX7_copyFrom_0 (by decide) ?_
    refine lv_istore_n (lv' := [(2, .int (0 : Int32)), (0, .ref (fw_ad E j0 0)), (1, .ref (fw_ad E j1 0))]) hx hb dX7_copyFrom_1 rfl hl (by decide) rfl (fun ls hl => ?_)
    exact L2 1000 μ (0 : Int32) H locs ls h hP hS (lv_sub hl [1, 2, 0] rfl)
  subst ha
  have hl := lv_entry ([.ref (fw_ad E j0 0), .ref (fw_ad E j1 0)]) (n := 3) (Nat.le_of_ble_eq_true rfl)
  rw [lg_entry_eq]
  generalize (lg_sl ([.ref (fw_ad E j0 0), .ref (fw_ad E j1 0)]) ++ List.replicate (3 - (lg_sl ([.ref (fw_ad E j0 0), .ref (fw_ad E j1 0)])).length) Slot.unset).toArray = ls at hl ⊢
  exact EN s.heap [] ls hP va_S.rf hl
set_option maxHeartbeats 4000000 in
set_option maxRecDepth 100000 in
theorem k_X7_isGarment (l : Launch) {E : fw_E} {o : Int64} {d : UInt64} (hE : fw_ok E) {μ : fw_M} {j0 : Nat} (hj0 : j0 < 12) (x1 : Int32) {r : Int32} (h : f_X7_isGarment μ j0 x1 = some r) : Met l yX7_isGarment (fw_ws yX7_isGarment cX7_isGarment 2 (some .boolean)) ({ frames := 0, cells := 0, slots := 0, locals := 0 } : Room) (va_Pc [.ref (fw_ad E j0 0), .int x1] (fw_Pre E o d μ)) (fw_Q E o d (some (.int r)) μ) 0 0 (fw_A E) := by
  refine Met.ofW (cc := cX7_isGarment) (maxL := 2) (ret := (some .boolean)) (by decide) rfl ?_
  intro p e s m args below meth c s₁ B hml hv
  obtain ⟨ha, hK, hP, hSt⟩ := hv
  have hx := B.exec
  have hb := B.bytes
  have hr := B.returns
  have hts := atoms_spec (ws := fw_ws yX7_isGarment cX7_isGarment 2 (some .boolean)) B.pre
  have hU : ∀ w ∈ fw_U, w.before args s = true := fun w hw => hts w (List.mem_cons_of_mem _ hw)
  have hown : s.vm.findClass RX7 = some m.cls := findClass_of_methodNamed B.named
  have hlocks := B.notSynchronized
  have EN : ∀ (H : Heap) (locs : List Loc) (ls : Array Slot), fw_P E o d μ H → va_S (fw_A E) s.heap H locs → lv_has ls 2 [(0, .ref (fw_ad E j0 0)), (1, .int x1)] → W p l e (headSpec (fw_ws yX7_isGarment cX7_isGarment 2 (some .boolean)) ({ frames := 0, cells := 0, slots := 0, locals := 0 } : Room)).room s m args below meth c H locs 0 0 (MQ below (fw_Q E o d (some (.int r)) μ) args s 0 0 (fw_A E)) (F0 m 0 ls []) := by
    intro H locs ls hP hS hl
    unfold f_X7_isGarment at h
    refine lv_iload_n hx hb dX7_isGarment_0 rfl (lv_at hl 1 rfl) ?_
    refine lv_if_lt (tgt := 16) hx hb dX7_isGarment_1 (by decide) (fun c1 => ?_) (fun c1 => ?_)
    · rw [if_pos c1] at h
      refine lv_iconst (v := (0 : Int32)) hx hb dX7_isGarment_16 (by decide) ?_
      exact W.zret (v := (0 : Int32)) hx hb hr rfl (fw_er (mk := Value.int) h hP hS) hS.2.2 dX7_isGarment_17
    · rw [if_neg c1] at h
      refine lv_iload_n hx hb dX7_isGarment_4 rfl (lv_at hl 1 rfl) ?_
      refine lv_aload_n hx hb dX7_isGarment_5 rfl (lv_at hl 0 rfl) ?_
      refine va_get (D := fw_D E) (ci := 6) (v := .int (μ j0 0 6)) (C := RX7) (T := TX7) (N := 10) hx hb hU inU7 hown hK (fw_at hP (fw_Vs (f := 0) (by decide) hj0)) 0 rfl rfl 6 (by decide) (hU (Cond.fieldLink RX7 31 "LaundryService$State" "garmentCount" "I") m_65) (fun _ h9 => h9) rfl dX7_isGarment_6 ?_
      refine lv_icmp_ge (tgt := 16) hx hb dX7_isGarment_9 (by decide) (fun c2 => ?_) (fun c2 => ?_)
      · rw [if_pos c2] at h
        refine lv_iconst (v := (0 : Int32)) hx hb dX7_isGarment_16 (by decide) ?_
        exact W.zret (v := (0 : Int32)) hx hb hr rfl (fw_er (mk := Value.int) h hP hS) hS.2.2 dX7_isGarment_17
      · rw [if_neg c2] at h
        refine lv_iconst (v := (1 : Int32)) hx hb dX7_isGarment_12 (by decide) ?_
        refine lv_goto (tgt := 17) hx hb dX7_isGarment_13 (by decide) ?_
        exact W.zret (v := (1 : Int32)) hx hb hr rfl (fw_er (mk := Value.int) h hP hS) hS.2.2 dX7_isGarment_17
  subst ha
  have hl := lv_entry ([.ref (fw_ad E j0 0), .int x1]) (n := 2) (Nat.le_of_ble_eq_true rfl)
  rw [lg_entry_eq]
  generalize (lg_sl ([.ref (fw_ad E j0 0), .int x1]) ++ List.replicate (2 - (lg_sl ([.ref (fw_ad E j0 0), .int x1])).length) Slot.unset).toArray = ls at hl ⊢
  exact EN s.heap [] ls hP va_S.rf hl
set_option maxHeartbeats 4000000 in
set_option maxRecDepth 100000 in
theorem k_X9_isClient (l : Launch) {E : fw_E} {o : Int64} {d : UInt64} (hE : fw_ok E) {μ : fw_M} (x0 : Int32) {r : Int32} (h : f_X9_isClient μ x0 = some r) : Met l yX9_isClient (fw_ws yX9_isClient cX9_isClient 1 (some .boolean)) ({ frames := 0, cells := 0, slots := 0, locals := 0 } : Room) (va_Pc [.int x0] (fw_Pre E o d μ)) (fw_Q E o d (some (.int r)) μ) 0 0 (fw_A E) := by
  refine Met.ofW (cc := cX9_isClient) (maxL := 1) (ret := (some .boolean)) (by decide) rfl ?_
  intro p e s m args below meth c s₁ B hml hv
  obtain ⟨ha, hK, hP, hSt⟩ := hv
  have hx := B.exec
  have hb := B.bytes
  have hr := B.returns
  have hts := atoms_spec (ws := fw_ws yX9_isClient cX9_isClient 1 (some .boolean)) B.pre
  have hU : ∀ w ∈ fw_U, w.before args s = true := fun w hw => hts w (List.mem_cons_of_mem _ hw)
  have hown : s.vm.findClass RX9 = some m.cls := findClass_of_methodNamed B.named
  have hlocks := B.notSynchronized
  have EN : ∀ (H : Heap) (locs : List Loc) (ls : Array Slot), fw_P E o d μ H → va_S (fw_A E) s.heap H locs → lv_has ls 1 [(0, .int x0)] → W p l e (headSpec (fw_ws yX9_isClient cX9_isClient 1 (some .boolean)) ({ frames := 0, cells := 0, slots := 0, locals := 0 } : Room)).room s m args below meth c H locs 0 0 (MQ below (fw_Q E o d (some (.int r)) μ) args s 0 0 (fw_A E)) (F0 m 0 ls []) := by
    intro H locs ls hP hS hl
    unfold f_X9_isClient at h
    refine lv_iload_n hx hb dX9_isClient_0 rfl (lv_at hl 0 rfl) ?_
    refine lv_if_lt (tgt := 13) hx hb dX9_isClient_1 (by decide) (fun c1 => ?_) (fun c1 => ?_)
    · rw [if_pos c1] at h
      refine lv_iconst (v := (0 : Int32)) hx hb dX9_isClient_13 (by decide) ?_
      exact W.zret (v := (0 : Int32)) hx hb hr rfl (fw_er (mk := Value.int) h hP hS) hS.2.2 dX9_isClient_14
    · rw [if_neg c1] at h
      refine lv_iload_n hx hb dX9_isClient_4 rfl (lv_at hl 0 rfl) ?_
      refine lv_iconst (v := (4 : Int32)) hx hb dX9_isClient_5 (by decide) ?_
      refine lv_icmp_ge (tgt := 13) hx hb dX9_isClient_6 (by decide) (fun c2 => ?_) (fun c2 => ?_)
      · rw [if_pos c2] at h
        refine lv_iconst (v := (0 : Int32)) hx hb dX9_isClient_13 (by decide) ?_
        exact W.zret (v := (0 : Int32)) hx hb hr rfl (fw_er (mk := Value.int) h hP hS) hS.2.2 dX9_isClient_14
      · rw [if_neg c2] at h
        refine lv_iconst (v := (1 : Int32)) hx hb dX9_isClient_9 (by decide) ?_
        refine lv_goto (tgt := 14) hx hb dX9_isClient_10 (by decide) ?_
        exact W.zret (v := (1 : Int32)) hx hb hr rfl (fw_er (mk := Value.int) h hP hS) hS.2.2 dX9_isClient_14
  subst ha
  have hl := lv_entry ([.int x0]) (n := 1) (Nat.le_of_ble_eq_true rfl)
  rw [lg_entry_eq]
  generalize (lg_sl ([.int x0]) ++ List.replicate (1 - (lg_sl ([.int x0])).length) Slot.unset).toArray = ls at hl ⊢
  exact EN s.heap [] ls hP va_S.rf hl
set_option maxHeartbeats 4000000 in
set_option maxRecDepth 100000 in
theorem k_X7_faultOfBringing (l : Launch) {E : fw_E} {o : Int64} {d : UInt64} (hE : fw_ok E) {μ : fw_M} {j0 : Nat} (hj0 : j0 < 12) (x1 : Int32) (x2 : Int32) (x3 : Int32) {r : Int32} (h : f_X7_faultOfBringing μ j0 x1 x2 x3 = some r) : Met l yX7_faultOfBringing (fw_ws yX7_faultOfBringing cX7_faultOfBringing 4 (some (.object "LaundryService$Fault"))) ({ frames := 1, cells := 0, slots := 0, locals := 20 } : Room) (va_Pc [.ref (fw_ad E j0 0), .int x1, .int x2, .int x3] (fw_Pre E o d μ)) (fw_Q E o d (some (fw_fv E r)) μ) 0 0 (fw_A E) := by
  refine Met.ofW (cc := cX7_faultOfBringing) (maxL := 4) (ret := (some (.object "LaundryService$Fault"))) (by decide) rfl ?_
  intro p e s m args below meth c s₁ B hml hv
  obtain ⟨ha, hK, hP, hSt⟩ := hv
  have hx := B.exec
  have hb := B.bytes
  have hr := B.returns
  have hts := atoms_spec (ws := fw_ws yX7_faultOfBringing cX7_faultOfBringing 4 (some (.object "LaundryService$Fault"))) B.pre
  have hU : ∀ w ∈ fw_U, w.before args s = true := fun w hw => hts w (List.mem_cons_of_mem _ hw)
  have hown : s.vm.findClass RX7 = some m.cls := findClass_of_methodNamed B.named
  have hlocks := B.notSynchronized
  have EN : ∀ (H : Heap) (locs : List Loc) (ls : Array Slot), fw_P E o d μ H → va_S (fw_A E) s.heap H locs → lv_has ls 4 [(0, .ref (fw_ad E j0 0)), (1, .int x1), (2, .int x2), (3, .int x3)] → W p l e (headSpec (fw_ws yX7_faultOfBringing cX7_faultOfBringing 4 (some (.object "LaundryService$Fault"))) ({ frames := 1, cells := 0, slots := 0, locals := 20 } : Room)).room s m args below meth c H locs 0 0 (MQ below (fw_Q E o d (some (fw_fv E r)) μ) args s 0 0 (fw_A E)) (F0 m 0 ls []) := by
    intro H locs ls hP hS hl
    unfold f_X7_faultOfBringing at h
    refine lv_iload_n hx hb dX7_faultOfBringing_0 rfl (lv_at hl 1 rfl) ?_
    obtain ⟨r1, hc1, h⟩ := fw_b1_e h
    refine fw_ret (va_runSN (As := [.int x1]) (rest := []) ⟨hx, hb, hml, hown, hU⟩ (k_X9_isClient l hE x1 hc1) ⟨va_cnB 1 hU (fw_gC m_430) rfl rfl rfl (hSt.1.1 _ (List.mem_of_getElem? (i := 0) rfl)) (hU (Cond.initialized RX9) m_1) (by decide +kernel) ⟨(Nat.le_of_ble_eq_true rfl), (Nat.le_of_ble_eq_true rfl)⟩, (hU (Cond.static yX9_isClient) m_429), trivial⟩ ⟨fw_blind, fun U hU9 hW9 => ⟨rfl, fw_pre hK hP hSt hS U hU9 hW9⟩⟩ rfl rfl hl.1 rfl (lv_room (Nat.le_of_ble_eq_true rfl)) dX7_faultOfBringing_1 ⟨Nat.zero_le _, Nat.zero_le _⟩) hS (fun H locs hP hS => ?_)
    refine lv_if_ne (tgt := 11) hx hb dX7_faultOfBringing_4 (by decide) (fun c2 => ?_) (fun c2 => ?_)
    · rw [if_neg c2] at h
      refine lv_iload_n hx hb dX7_faultOfBringing_11 rfl (lv_at hl 2 rfl) ?_
      refine lv_if_lt (tgt := 32) hx hb dX7_faultOfBringing_12 (by decide) (fun c3 => ?_) (fun c3 => ?_)
      · rw [if_pos c3] at h
        refine va_gets (v := fw_fv E (2 : Int32)) hx hb (fw_zf_ARGUMENT hSt) hS hown (hU (Cond.fieldLink RX7 55 "LaundryService$Fault" "ARGUMENT" "LLaundryService$Fault;") m_433) (fun _ h9 => h9) dX7_faultOfBringing_32 ?_
        exact W.aret (v := fw_fv E (2 : Int32)) hx hb hr (Or.inl ⟨_, rfl⟩) (Or.inr ⟨_, rfl⟩) (fw_er (mk := fw_fv E) h hP hS) hS.2.2 dX7_faultOfBringing_35
      · rw [if_neg c3] at h
        refine lv_iload_n hx hb dX7_faultOfBringing_15 rfl (lv_at hl 2 rfl) ?_
        refine lv_bipush (v := (8 : Int32)) hx hb dX7_faultOfBringing_16 (by decide) ?_
        refine lv_icmp_ge (tgt := 32) hx hb dX7_faultOfBringing_18 (by decide) (fun c4 => ?_) (fun c4 => ?_)
        · rw [if_pos c4] at h
          refine va_gets (v := fw_fv E (2 : Int32)) hx hb (fw_zf_ARGUMENT hSt) hS hown (hU (Cond.fieldLink RX7 55 "LaundryService$Fault" "ARGUMENT" "LLaundryService$Fault;") m_433) (fun _ h9 => h9) dX7_faultOfBringing_32 ?_
          exact W.aret (v := fw_fv E (2 : Int32)) hx hb hr (Or.inl ⟨_, rfl⟩) (Or.inr ⟨_, rfl⟩) (fw_er (mk := fw_fv E) h hP hS) hS.2.2 dX7_faultOfBringing_35
        · rw [if_neg c4] at h
          refine lv_iload_n hx hb dX7_faultOfBringing_21 rfl (lv_at hl 3 rfl) ?_
          refine lv_if_lt (tgt := 32) hx hb dX7_faultOfBringing_22 (by decide) (fun c5 => ?_) (fun c5 => ?_)
          · rw [if_pos c5] at h
            refine va_gets (v := fw_fv E (2 : Int32)) hx hb (fw_zf_ARGUMENT hSt) hS hown (hU (Cond.fieldLink RX7 55 "LaundryService$Fault" "ARGUMENT" "LLaundryService$Fault;") m_433) (fun _ h9 => h9) dX7_faultOfBringing_32 ?_
            exact W.aret (v := fw_fv E (2 : Int32)) hx hb hr (Or.inl ⟨_, rfl⟩) (Or.inr ⟨_, rfl⟩) (fw_er (mk := fw_fv E) h hP hS) hS.2.2 dX7_faultOfBringing_35
          · rw [if_neg c5] at h
            refine lv_iload_n hx hb dX7_faultOfBringing_25 rfl (lv_at hl 3 rfl) ?_
            refine lv_sipush (v := (255 : Int32)) hx hb dX7_faultOfBringing_26 (by decide) ?_
            refine lv_icmp_le (tgt := 36) hx hb dX7_faultOfBringing_29 (by decide) (fun c6 => ?_) (fun c6 => ?_)
            · rw [if_pos c6] at h
              refine lv_aload_n hx hb dX7_faultOfBringing_36 rfl (lv_at hl 0 rfl) ?_
              refine va_get (D := fw_D E) (ci := 6) (v := .int (μ j0 0 6)) (C := RX7) (T := TX7) (N := 10) hx hb hU inU7 hown hK (fw_at hP (fw_Vs (f := 0) (by decide) hj0)) 0 rfl rfl 6 (by decide) (hU (Cond.fieldLink RX7 31 "LaundryService$State" "garmentCount" "I") m_65) (fun _ h9 => h9) rfl dX7_faultOfBringing_37 ?_
              refine lv_bipush (v := (16 : Int32)) hx hb dX7_faultOfBringing_40 (by decide) ?_
              refine lv_icmp_lt (tgt := 51) hx hb dX7_faultOfBringing_42 (by decide) (fun c7 => ?_) (fun c7 => ?_)
              · rw [if_pos c7] at h
                refine va_gets (v := fw_fv E (0 : Int32)) hx hb (fw_zf_NONE hSt) hS hown (hU (Cond.fieldLink RX7 61 "LaundryService$Fault" "NONE" "LLaundryService$Fault;") m_437) (fun _ h9 => h9) dX7_faultOfBringing_51 ?_
                exact W.aret (v := fw_fv E (0 : Int32)) hx hb hr (Or.inl ⟨_, rfl⟩) (Or.inr ⟨_, rfl⟩) (fw_er (mk := fw_fv E) h hP hS) hS.2.2 dX7_faultOfBringing_54
              · rw [if_neg c7] at h
                refine va_gets (v := fw_fv E (4 : Int32)) hx hb (fw_zf_STATE hSt) hS hown (hU (Cond.fieldLink RX7 58 "LaundryService$Fault" "STATE" "LLaundryService$Fault;") m_435) (fun _ h9 => h9) dX7_faultOfBringing_45 ?_
                refine lv_goto (tgt := 54) hx hb dX7_faultOfBringing_48 (by decide) ?_
                exact W.aret (v := fw_fv E (4 : Int32)) hx hb hr (Or.inl ⟨_, rfl⟩) (Or.inr ⟨_, rfl⟩) (fw_er (mk := fw_fv E) h hP hS) hS.2.2 dX7_faultOfBringing_54
            · rw [if_neg c6] at h
              refine va_gets (v := fw_fv E (2 : Int32)) hx hb (fw_zf_ARGUMENT hSt) hS hown (hU (Cond.fieldLink RX7 55 "LaundryService$Fault" "ARGUMENT" "LLaundryService$Fault;") m_433) (fun _ h9 => h9) dX7_faultOfBringing_32 ?_
              exact W.aret (v := fw_fv E (2 : Int32)) hx hb hr (Or.inl ⟨_, rfl⟩) (Or.inr ⟨_, rfl⟩) (fw_er (mk := fw_fv E) h hP hS) hS.2.2 dX7_faultOfBringing_35
    · rw [if_pos c2] at h
      refine va_gets (v := fw_fv E (1 : Int32)) hx hb (fw_zf_INDEX hSt) hS hown (hU (Cond.fieldLink RX7 49 "LaundryService$Fault" "INDEX" "LLaundryService$Fault;") m_431) (fun _ h9 => h9) dX7_faultOfBringing_7 ?_
      exact W.aret (v := fw_fv E (1 : Int32)) hx hb hr (Or.inl ⟨_, rfl⟩) (Or.inr ⟨_, rfl⟩) (fw_er (mk := fw_fv E) h hP hS) hS.2.2 dX7_faultOfBringing_10
  subst ha
  have hl := lv_entry ([.ref (fw_ad E j0 0), .int x1, .int x2, .int x3]) (n := 4) (Nat.le_of_ble_eq_true rfl)
  rw [lg_entry_eq]
  generalize (lg_sl ([.ref (fw_ad E j0 0), .int x1, .int x2, .int x3]) ++ List.replicate (4 - (lg_sl ([.ref (fw_ad E j0 0), .int x1, .int x2, .int x3])).length) Slot.unset).toArray = ls at hl ⊢
  exact EN s.heap [] ls hP va_S.rf hl
set_option maxHeartbeats 4000000 in
set_option maxRecDepth 100000 in
theorem k_X9_isMachine (l : Launch) {E : fw_E} {o : Int64} {d : UInt64} (hE : fw_ok E) {μ : fw_M} (x0 : Int32) {r : Int32} (h : f_X9_isMachine μ x0 = some r) : Met l yX9_isMachine (fw_ws yX9_isMachine cX9_isMachine 1 (some .boolean)) ({ frames := 0, cells := 0, slots := 0, locals := 0 } : Room) (va_Pc [.int x0] (fw_Pre E o d μ)) (fw_Q E o d (some (.int r)) μ) 0 0 (fw_A E) := by
  refine Met.ofW (cc := cX9_isMachine) (maxL := 1) (ret := (some .boolean)) (by decide) rfl ?_
  intro p e s m args below meth c s₁ B hml hv
  obtain ⟨ha, hK, hP, hSt⟩ := hv
  have hx := B.exec
  have hb := B.bytes
  have hr := B.returns
  have hts := atoms_spec (ws := fw_ws yX9_isMachine cX9_isMachine 1 (some .boolean)) B.pre
  have hU : ∀ w ∈ fw_U, w.before args s = true := fun w hw => hts w (List.mem_cons_of_mem _ hw)
  have hown : s.vm.findClass RX9 = some m.cls := findClass_of_methodNamed B.named
  have hlocks := B.notSynchronized
  have EN : ∀ (H : Heap) (locs : List Loc) (ls : Array Slot), fw_P E o d μ H → va_S (fw_A E) s.heap H locs → lv_has ls 1 [(0, .int x0)] → W p l e (headSpec (fw_ws yX9_isMachine cX9_isMachine 1 (some .boolean)) ({ frames := 0, cells := 0, slots := 0, locals := 0 } : Room)).room s m args below meth c H locs 0 0 (MQ below (fw_Q E o d (some (.int r)) μ) args s 0 0 (fw_A E)) (F0 m 0 ls []) := by
    intro H locs ls hP hS hl
    unfold f_X9_isMachine at h
    refine lv_iload_n hx hb dX9_isMachine_0 rfl (lv_at hl 0 rfl) ?_
    refine lv_if_lt (tgt := 13) hx hb dX9_isMachine_1 (by decide) (fun c1 => ?_) (fun c1 => ?_)
    · rw [if_pos c1] at h
      refine lv_iconst (v := (0 : Int32)) hx hb dX9_isMachine_13 (by decide) ?_
      exact W.zret (v := (0 : Int32)) hx hb hr rfl (fw_er (mk := Value.int) h hP hS) hS.2.2 dX9_isMachine_14
    · rw [if_neg c1] at h
      refine lv_iload_n hx hb dX9_isMachine_4 rfl (lv_at hl 0 rfl) ?_
      refine lv_iconst (v := (2 : Int32)) hx hb dX9_isMachine_5 (by decide) ?_
      refine lv_icmp_ge (tgt := 13) hx hb dX9_isMachine_6 (by decide) (fun c2 => ?_) (fun c2 => ?_)
      · rw [if_pos c2] at h
        refine lv_iconst (v := (0 : Int32)) hx hb dX9_isMachine_13 (by decide) ?_
        exact W.zret (v := (0 : Int32)) hx hb hr rfl (fw_er (mk := Value.int) h hP hS) hS.2.2 dX9_isMachine_14
      · rw [if_neg c2] at h
        refine lv_iconst (v := (1 : Int32)) hx hb dX9_isMachine_9 (by decide) ?_
        refine lv_goto (tgt := 14) hx hb dX9_isMachine_10 (by decide) ?_
        exact W.zret (v := (1 : Int32)) hx hb hr rfl (fw_er (mk := Value.int) h hP hS) hS.2.2 dX9_isMachine_14
  subst ha
  have hl := lv_entry ([.int x0]) (n := 1) (Nat.le_of_ble_eq_true rfl)
  rw [lg_entry_eq]
  generalize (lg_sl ([.int x0]) ++ List.replicate (1 - (lg_sl ([.int x0])).length) Slot.unset).toArray = ls at hl ⊢
  exact EN s.heap [] ls hP va_S.rf hl
set_option maxHeartbeats 4000000 in
set_option maxRecDepth 100000 in
theorem k_X7_garmentsAt (l : Launch) {E : fw_E} {o : Int64} {d : UInt64} (hE : fw_ok E) {μ : fw_M} {j0 : Nat} (hj0 : j0 < 12) (x1 : Int32) {r : Int32} (h : f_X7_garmentsAt μ j0 x1 = some r) : Met l yX7_garmentsAt (fw_ws yX7_garmentsAt cX7_garmentsAt 4 (some .int)) ({ frames := 0, cells := 0, slots := 0, locals := 0 } : Room) (va_Pc [.ref (fw_ad E j0 0), .int x1] (fw_Pre E o d μ)) (fw_Q E o d (some (.int r)) μ) 0 0 (fw_A E) := by
  refine Met.ofW (cc := cX7_garmentsAt) (maxL := 4) (ret := (some .int)) (by decide) rfl ?_
  intro p e s m args below meth c s₁ B hml hv
  obtain ⟨ha, hK, hP, hSt⟩ := hv
  have hx := B.exec
  have hb := B.bytes
  have hr := B.returns
  have hts := atoms_spec (ws := fw_ws yX7_garmentsAt cX7_garmentsAt 4 (some .int)) B.pre
  have hU : ∀ w ∈ fw_U, w.before args s = true := fun w hw => hts w (List.mem_cons_of_mem _ hw)
  have hown : s.vm.findClass RX7 = some m.cls := findClass_of_methodNamed B.named
  have hlocks := B.notSynchronized
  have L4 : ∀ (n : Nat) (x1 : Int32) (x2 : Int32) (x3 : Int32) (H : Heap) (locs : List Loc) (ls : Array Slot), f_X7_garmentsAt_L4 μ j0 n x1 x2 x3 = some r → fw_P E o d μ H → va_S (fw_A E) s.heap H locs → lv_has ls 4 [(0, .ref (fw_ad E j0 0)), (1, .int x1), (2, .int x2), (3, .int x3)] → W p l e (headSpec (fw_ws yX7_garmentsAt cX7_garmentsAt 4 (some .int)) ({ frames := 0, cells := 0, slots := 0, locals := 0 } : Room)).room s m args below meth c H locs 0 0 (MQ below (fw_Q E o d (some (.int r)) μ) args s 0 0 (fw_A E)) (F0 m 4 ls []) := by
    intro n4
    induction n4 with
    | zero => intro x1 x2 x3 H locs ls h; rw [f_X7_garmentsAt_L4] at h; cases h
    | succ n4 ih4 =>
      intro x1 x2 x3 H locs ls h hP hS hl
      rw [f_X7_garmentsAt_L4] at h
      refine lv_iload_n hx hb dX7_garmentsAt_4 rfl (lv_at hl 3 rfl) ?_
      refine lv_aload_n hx hb dX7_garmentsAt_5 rfl (lv_at hl 0 rfl) ?_
      refine va_get (D := fw_D E) (ci := 6) (v := .int (μ j0 0 6)) (C := RX7) (T := TX7) (N := 10) hx hb hU inU7 hown hK (fw_at hP (fw_Vs (f := 0) (by decide) hj0)) 0 rfl rfl 6 (by decide) (hU (Cond.fieldLink RX7 31 "LaundryService$State" "garmentCount" "I") m_65) (fun _ h9 => h9) rfl dX7_garmentsAt_6 ?_
      refine lv_icmp_ge (tgt := 34) hx hb dX7_garmentsAt_9 (by decide) (fun c1 => ?_) (fun c1 => ?_)
      · rw [if_pos c1] at h
        refine lv_iload_n hx hb dX7_garmentsAt_34 rfl (lv_at hl 2 rfl) ?_
        exact W.iret (v := x2) hx hb hr (fw_er (mk := Value.int) h hP hS) hS.2.2 dX7_garmentsAt_35
      · rw [if_neg c1] at h
        refine lv_aload_n hx hb dX7_garmentsAt_12 rfl (lv_at hl 0 rfl) ?_
        refine va_get (D := fw_D E) (ci := 6) (v := .ref (fw_ad E j0 5)) (C := RX7) (T := TX7) (N := 10) hx hb hU inU7 hown hK (fw_at hP (fw_Vs (f := 0) (by decide) hj0)) 0 rfl rfl 4 (by decide) (hU (Cond.fieldLink RX7 25 "LaundryService$State" "places" "[I") m_59) (fun _ h9 => h9) rfl dX7_garmentsAt_13 ?_
        refine lv_iload_n hx hb dX7_garmentsAt_16 rfl (lv_at hl 3 rfl) ?_
        obtain ⟨g2, h⟩ := fw_g_e h
        refine va_iald (D := fw_D E) hx hb hK (fw_at hP (fw_Vs (f := 5) (by decide) hj0)) 0 0 rfl rfl (fw_in_e g2) dX7_garmentsAt_17 ?_
        refine lv_iload_n hx hb dX7_garmentsAt_18 rfl (lv_at hl 1 rfl) ?_
        refine lv_icmp_ne (tgt := 28) hx hb dX7_garmentsAt_19 (by decide) (fun c3 => ?_) (fun c3 => ?_)
        · rw [if_neg c3] at h
          refine lv_iinc (v := (x3 + (1 : Int32))) (lv' := [(3, .int (x3 + (1 : Int32))), (0, .ref (fw_ad E j0 0)), (1, .int x1), (2, .int x2)]) hx hb dX7_garmentsAt_28 hl (k := 3) rfl rfl (by decide) rfl (fun ls hl => ?_)
          refine lv_goto (tgt := 4) hx hb dX7_garmentsAt_31 (by decide) ?_
          exact ih4 x1 x2 (x3 + (1 : Int32)) H locs ls h hP hS (lv_sub hl [1, 2, 3, 0] rfl)
        · rw [if_pos c3] at h
          refine lv_iload_n hx hb dX7_garmentsAt_22 rfl (lv_at hl 2 rfl) ?_
          refine lv_iconst (v := (1 : Int32)) hx hb dX7_garmentsAt_23 (by decide) ?_
          refine lv_iload_n hx hb dX7_garmentsAt_24 rfl (lv_at hl 3 rfl) ?_
          refine lv_ishl hx hb dX7_garmentsAt_25 ?_
          refine lv_ior hx hb dX7_garmentsAt_26 ?_
          refine lv_istore_n (lv' := [(2, .int (x2 ||| ((1 : Int32) <<< (x3 &&& (31 : Int32))))), (0, .ref (fw_ad E j0 0)), (1, .int x1), (3, .int x3)]) hx hb dX7_garmentsAt_27 rfl hl (by decide) rfl (fun ls hl => ?_)
          refine lv_iinc (v := (x3 + (1 : Int32))) (lv' := [(3, .int (x3 + (1 : Int32))), (2, .int (x2 ||| ((1 : Int32) <<< (x3 &&& (31 : Int32))))), (0, .ref (fw_ad E j0 0)), (1, .int x1)]) hx hb dX7_garmentsAt_28 hl (k := 3) rfl rfl (by decide) rfl (fun ls hl => ?_)
          refine lv_goto (tgt := 4) hx hb dX7_garmentsAt_31 (by decide) ?_
          exact ih4 x1 (x2 ||| ((1 : Int32) <<< (x3 &&& (31 : Int32)))) (x3 + (1 : Int32)) H locs ls h hP hS (lv_sub hl [2, 3, 1, 0] rfl)
  have EN : ∀ (H : Heap) (locs : List Loc) (ls : Array Slot), fw_P E o d μ H → va_S (fw_A E) s.heap H locs → lv_has ls 4 [(0, .ref (fw_ad E j0 0)), (1, .int x1)] → W p l e (headSpec (fw_ws yX7_garmentsAt cX7_garmentsAt 4 (some .int)) ({ frames := 0, cells := 0, slots := 0, locals := 0 } : Room)).room s m args below meth c H locs 0 0 (MQ below (fw_Q E o d (some (.int r)) μ) args s 0 0 (fw_A E)) (F0 m 0 ls []) := by
    intro H locs ls hP hS hl
    unfold f_X7_garmentsAt at h
    refine lv_iconst (v := (0 : Int32)) hx hb dX7_garmentsAt_0 (by decide) ?_
    refine lv_istore_n (lv' := [(2, .int (0 : Int32)), (0, .ref (fw_ad E j0 0)), (1, .int x1)]) hx hb dX7_garmentsAt_1 rfl hl (by decide) rfl (fun ls hl => ?_)
    refine lv_iconst (v := (0 : Int32)) hx hb dX7_garmentsAt_2 (by decide) ?_
    refine lv_istore_n (lv' := [(3, .int (0 : Int32)), (2, .int (0 : Int32)), (0, .ref (fw_ad E j0 0)), (1, .int x1)]) hx hb dX7_garmentsAt_3 rfl hl (by decide) rfl (fun ls hl => ?_)
    exact L4 1000 x1 (0 : Int32) (0 : Int32) H locs ls h hP hS (lv_sub hl [2, 3, 1, 0] rfl)
  subst ha
  have hl := lv_entry ([.ref (fw_ad E j0 0), .int x1]) (n := 4) (Nat.le_of_ble_eq_true rfl)
  rw [lg_entry_eq]
  generalize (lg_sl ([.ref (fw_ad E j0 0), .int x1]) ++ List.replicate (4 - (lg_sl ([.ref (fw_ad E j0 0), .int x1])).length) Slot.unset).toArray = ls at hl ⊢
  exact EN s.heap [] ls hP va_S.rf hl
set_option maxHeartbeats 4000000 in
set_option maxRecDepth 100000 in
theorem k_J6_bitCount_0f7a4 (l : Launch) {E : fw_E} {o : Int64} {d : UInt64} (hE : fw_ok E) {μ : fw_M} (x0 : Int32) {r : Int32} (h : f_J6_bitCount_0f7a4 μ x0 = some r) : Met l yJ6_bitCount_0f7a4 (fw_ws yJ6_bitCount_0f7a4 cJ6_bitCount_0f7a4 1 (some .int)) ({ frames := 0, cells := 0, slots := 0, locals := 0 } : Room) (va_Pc [.int x0] (fw_Pre E o d μ)) (fw_Q E o d (some (.int r)) μ) 0 0 (fw_A E) := by
  refine Met.ofW (cc := cJ6_bitCount_0f7a4) (maxL := 1) (ret := (some .int)) (by decide) rfl ?_
  intro p e s m args below meth c s₁ B hml hv
  obtain ⟨ha, hK, hP, hSt⟩ := hv
  have hx := B.exec
  have hb := B.bytes
  have hr := B.returns
  have hts := atoms_spec (ws := fw_ws yJ6_bitCount_0f7a4 cJ6_bitCount_0f7a4 1 (some .int)) B.pre
  have hU : ∀ w ∈ fw_U, w.before args s = true := fun w hw => hts w (List.mem_cons_of_mem _ hw)
  have hown : s.vm.findClass RJ6 = some m.cls := findClass_of_methodNamed B.named
  have hlocks := B.notSynchronized
  have EN : ∀ (H : Heap) (locs : List Loc) (ls : Array Slot), fw_P E o d μ H → va_S (fw_A E) s.heap H locs → lv_has ls 1 [(0, .int x0)] → W p l e (headSpec (fw_ws yJ6_bitCount_0f7a4 cJ6_bitCount_0f7a4 1 (some .int)) ({ frames := 0, cells := 0, slots := 0, locals := 0 } : Room)).room s m args below meth c H locs 0 0 (MQ below (fw_Q E o d (some (.int r)) μ) args s 0 0 (fw_A E)) (F0 m 0 ls []) := by
    intro H locs ls hP hS hl
    unfold f_J6_bitCount_0f7a4 at h
    refine lv_iload_n hx hb dJ6_bitCount_0f7a4_0 rfl (lv_at hl 0 rfl) ?_
    refine lv_iload_n hx hb dJ6_bitCount_0f7a4_1 rfl (lv_at hl 0 rfl) ?_
    refine lv_iconst (v := (1 : Int32)) hx hb dJ6_bitCount_0f7a4_2 (by decide) ?_
    refine lv_iushr (v := (x0.toUInt32 >>> ((1 : Int32).toUInt32 &&& Int32.toUInt32 31)).toInt32) hx hb dJ6_bitCount_0f7a4_3 rfl ?_
    refine lv_ldcw (v := (1431655765 : Int32)) hx hb hown (hU (Cond.constant RJ6 265 (1431655765 : Int32)) m_270) dJ6_bitCount_0f7a4_4 ?_
    refine lv_iand hx hb dJ6_bitCount_0f7a4_7 ?_
    refine lv_isub hx hb dJ6_bitCount_0f7a4_8 ?_
    refine lv_istore_n (lv' := [(0, .int (x0 - ((x0.toUInt32 >>> ((1 : Int32).toUInt32 &&& Int32.toUInt32 31)).toInt32 &&& (1431655765 : Int32))))]) hx hb dJ6_bitCount_0f7a4_9 rfl hl (by decide) rfl (fun ls hl => ?_)
    refine lv_iload_n hx hb dJ6_bitCount_0f7a4_10 rfl (lv_at hl 0 rfl) ?_
    refine lv_ldcw (v := (858993459 : Int32)) hx hb hown (hU (Cond.constant RJ6 266 (858993459 : Int32)) m_271) dJ6_bitCount_0f7a4_11 ?_
    refine lv_iand hx hb dJ6_bitCount_0f7a4_14 ?_
    refine lv_iload_n hx hb dJ6_bitCount_0f7a4_15 rfl (lv_at hl 0 rfl) ?_
    refine lv_iconst (v := (2 : Int32)) hx hb dJ6_bitCount_0f7a4_16 (by decide) ?_
    refine lv_iushr (v := ((x0 - ((x0.toUInt32 >>> ((1 : Int32).toUInt32 &&& Int32.toUInt32 31)).toInt32 &&& (1431655765 : Int32))).toUInt32 >>> ((2 : Int32).toUInt32 &&& Int32.toUInt32 31)).toInt32) hx hb dJ6_bitCount_0f7a4_17 rfl ?_
    refine lv_ldcw (v := (858993459 : Int32)) hx hb hown (hU (Cond.constant RJ6 266 (858993459 : Int32)) m_271) dJ6_bitCount_0f7a4_18 ?_
    refine lv_iand hx hb dJ6_bitCount_0f7a4_21 ?_
    refine lv_iadd hx hb dJ6_bitCount_0f7a4_22 ?_
    obtain ⟨y1, ey1, h⟩ := fw_l_e h
    rw [← ey1]
    refine lv_istore_n (lv' := [(0, .int y1)]) hx hb dJ6_bitCount_0f7a4_23 rfl hl (by decide) rfl (fun ls hl => ?_)
    refine lv_iload_n hx hb dJ6_bitCount_0f7a4_24 rfl (lv_at hl 0 rfl) ?_
    refine lv_iload_n hx hb dJ6_bitCount_0f7a4_25 rfl (lv_at hl 0 rfl) ?_
    refine lv_iconst (v := (4 : Int32)) hx hb dJ6_bitCount_0f7a4_26 (by decide) ?_
    refine lv_iushr (v := (y1.toUInt32 >>> ((4 : Int32).toUInt32 &&& Int32.toUInt32 31)).toInt32) hx hb dJ6_bitCount_0f7a4_27 rfl ?_
    refine lv_iadd hx hb dJ6_bitCount_0f7a4_28 ?_
    refine lv_ldcw (v := (252645135 : Int32)) hx hb hown (hU (Cond.constant RJ6 267 (252645135 : Int32)) m_272) dJ6_bitCount_0f7a4_29 ?_
    refine lv_iand hx hb dJ6_bitCount_0f7a4_32 ?_
    refine lv_istore_n (lv' := [(0, .int ((y1 + (y1.toUInt32 >>> ((4 : Int32).toUInt32 &&& Int32.toUInt32 31)).toInt32) &&& (252645135 : Int32)))]) hx hb dJ6_bitCount_0f7a4_33 rfl hl (by decide) rfl (fun ls hl => ?_)
    refine lv_iload_n hx hb dJ6_bitCount_0f7a4_34 rfl (lv_at hl 0 rfl) ?_
    refine lv_iload_n hx hb dJ6_bitCount_0f7a4_35 rfl (lv_at hl 0 rfl) ?_
    refine lv_bipush (v := (8 : Int32)) hx hb dJ6_bitCount_0f7a4_36 (by decide) ?_
    refine lv_iushr (v := (((y1 + (y1.toUInt32 >>> ((4 : Int32).toUInt32 &&& Int32.toUInt32 31)).toInt32) &&& (252645135 : Int32)).toUInt32 >>> ((8 : Int32).toUInt32 &&& Int32.toUInt32 31)).toInt32) hx hb dJ6_bitCount_0f7a4_38 rfl ?_
    refine lv_iadd hx hb dJ6_bitCount_0f7a4_39 ?_
    obtain ⟨y2, ey2, h⟩ := fw_l_e h
    rw [← ey2]
    refine lv_istore_n (lv' := [(0, .int y2)]) hx hb dJ6_bitCount_0f7a4_40 rfl hl (by decide) rfl (fun ls hl => ?_)
    refine lv_iload_n hx hb dJ6_bitCount_0f7a4_41 rfl (lv_at hl 0 rfl) ?_
    refine lv_iload_n hx hb dJ6_bitCount_0f7a4_42 rfl (lv_at hl 0 rfl) ?_
    refine lv_bipush (v := (16 : Int32)) hx hb dJ6_bitCount_0f7a4_43 (by decide) ?_
    refine lv_iushr (v := (y2.toUInt32 >>> ((16 : Int32).toUInt32 &&& Int32.toUInt32 31)).toInt32) hx hb dJ6_bitCount_0f7a4_45 rfl ?_
    refine lv_iadd hx hb dJ6_bitCount_0f7a4_46 ?_
    refine lv_istore_n (lv' := [(0, .int (y2 + (y2.toUInt32 >>> ((16 : Int32).toUInt32 &&& Int32.toUInt32 31)).toInt32))]) hx hb dJ6_bitCount_0f7a4_47 rfl hl (by decide) rfl (fun ls hl => ?_)
    refine lv_iload_n hx hb dJ6_bitCount_0f7a4_48 rfl (lv_at hl 0 rfl) ?_
    refine lv_bipush (v := (63 : Int32)) hx hb dJ6_bitCount_0f7a4_49 (by decide) ?_
    refine lv_iand hx hb dJ6_bitCount_0f7a4_51 ?_
    exact W.iret (v := ((y2 + (y2.toUInt32 >>> ((16 : Int32).toUInt32 &&& Int32.toUInt32 31)).toInt32) &&& (63 : Int32))) hx hb hr (fw_er (mk := Value.int) h hP hS) hS.2.2 dJ6_bitCount_0f7a4_52
  subst ha
  have hl := lv_entry ([.int x0]) (n := 1) (Nat.le_of_ble_eq_true rfl)
  rw [lg_entry_eq]
  generalize (lg_sl ([.int x0]) ++ List.replicate (1 - (lg_sl ([.int x0])).length) Slot.unset).toArray = ls at hl ⊢
  exact EN s.heap [] ls hP va_S.rf hl
set_option maxHeartbeats 4000000 in
set_option maxRecDepth 100000 in
theorem k_X7_countIn (l : Launch) {E : fw_E} {o : Int64} {d : UInt64} (hE : fw_ok E) {μ : fw_M} {j0 : Nat} (hj0 : j0 < 12) (x1 : Int32) {r : Int32} (h : f_X7_countIn μ j0 x1 = some r) : Met l yX7_countIn (fw_ws yX7_countIn cX7_countIn 2 (some .int)) ({ frames := 1, cells := 0, slots := 0, locals := 23 } : Room) (va_Pc [.ref (fw_ad E j0 0), .int x1] (fw_Pre E o d μ)) (fw_Q E o d (some (.int r)) μ) 0 0 (fw_A E) := by
  refine Met.ofW (cc := cX7_countIn) (maxL := 2) (ret := (some .int)) (by decide) rfl ?_
  intro p e s m args below meth c s₁ B hml hv
  obtain ⟨ha, hK, hP, hSt⟩ := hv
  have hx := B.exec
  have hb := B.bytes
  have hr := B.returns
  have hts := atoms_spec (ws := fw_ws yX7_countIn cX7_countIn 2 (some .int)) B.pre
  have hU : ∀ w ∈ fw_U, w.before args s = true := fun w hw => hts w (List.mem_cons_of_mem _ hw)
  have hown : s.vm.findClass RX7 = some m.cls := findClass_of_methodNamed B.named
  have hlocks := B.notSynchronized
  have EN : ∀ (H : Heap) (locs : List Loc) (ls : Array Slot), fw_P E o d μ H → va_S (fw_A E) s.heap H locs → lv_has ls 2 [(0, .ref (fw_ad E j0 0)), (1, .int x1)] → W p l e (headSpec (fw_ws yX7_countIn cX7_countIn 2 (some .int)) ({ frames := 1, cells := 0, slots := 0, locals := 23 } : Room)).room s m args below meth c H locs 0 0 (MQ below (fw_Q E o d (some (.int r)) μ) args s 0 0 (fw_A E)) (F0 m 0 ls []) := by
    intro H locs ls hP hS hl
    unfold f_X7_countIn at h
    refine lv_aload_n hx hb dX7_countIn_0 rfl (lv_at hl 0 rfl) ?_
    refine lv_iconst (v := (1 : Int32)) hx hb dX7_countIn_1 (by decide) ?_
    refine lv_iload_n hx hb dX7_countIn_2 rfl (lv_at hl 1 rfl) ?_
    refine lv_iadd hx hb dX7_countIn_3 ?_
    obtain ⟨r1, hc1, h⟩ := fw_b1_e h
    refine fw_ret (va_runV (As := [.int ((1 : Int32) + x1)]) (rest := []) ⟨hx, hb, hml, hown, hU⟩ (k_X7_garmentsAt l hE hj0 ((1 : Int32) + x1) hc1) (cwV 1 hU (fw_gV m_266 m_230 m_231 m_2 m_232) rfl rfl rfl (by decide +kernel) ⟨(Nat.le_of_ble_eq_true rfl), (Nat.le_of_ble_eq_true rfl)⟩) ⟨fw_blind, fw_recv hK hP (fw_Vs (f := 0) (by decide) hj0) rfl rfl, fun U hU9 hW9 => ⟨rfl, fw_pre hK hP hSt hS U hU9 hW9⟩⟩ rfl rfl hl.1 rfl (lv_room (Nat.le_of_ble_eq_true rfl)) dX7_countIn_4 ⟨Nat.zero_le _, Nat.zero_le _⟩) hS (fun H locs hP hS => ?_)
    obtain ⟨r2, hc2, h⟩ := fw_b1_e h
    refine fw_ret (va_runS (As := [.int r1]) (rest := []) ⟨hx, hb, hml, hown, hU⟩ (k_J6_bitCount_0f7a4 l hE r1 hc2) (va_cwS 1 hU (fw_gS m_267 m_268 m_22 m_269) rfl rfl rfl (by decide +kernel) ⟨(Nat.le_of_ble_eq_true rfl), (Nat.le_of_ble_eq_true rfl)⟩) ⟨fw_blind, fun U hU9 hW9 => ⟨rfl, fw_pre hK hP hSt hS U hU9 hW9⟩⟩ rfl rfl hl.1 rfl (lv_room (Nat.le_of_ble_eq_true rfl)) dX7_countIn_7 ⟨Nat.zero_le _, Nat.zero_le _⟩) hS (fun H locs hP hS => ?_)
    exact W.iret (v := r2) hx hb hr (fw_er (mk := Value.int) h hP hS) hS.2.2 dX7_countIn_10
  subst ha
  have hl := lv_entry ([.ref (fw_ad E j0 0), .int x1]) (n := 2) (Nat.le_of_ble_eq_true rfl)
  rw [lg_entry_eq]
  generalize (lg_sl ([.ref (fw_ad E j0 0), .int x1]) ++ List.replicate (2 - (lg_sl ([.ref (fw_ad E j0 0), .int x1])).length) Slot.unset).toArray = ls at hl ⊢
  exact EN s.heap [] ls hP va_S.rf hl
set_option maxHeartbeats 4000000 in
set_option maxRecDepth 100000 in
theorem k_X7_faultOfLoading (l : Launch) {E : fw_E} {o : Int64} {d : UInt64} (hE : fw_ok E) {μ : fw_M} {j0 : Nat} (hj0 : j0 < 12) (x1 : Int32) (x2 : Int32) {r : Int32} (h : f_X7_faultOfLoading μ j0 x1 x2 = some r) : Met l yX7_faultOfLoading (fw_ws yX7_faultOfLoading cX7_faultOfLoading 3 (some (.object "LaundryService$Fault"))) ({ frames := 2, cells := 0, slots := 0, locals := 44 } : Room) (va_Pc [.ref (fw_ad E j0 0), .int x1, .int x2] (fw_Pre E o d μ)) (fw_Q E o d (some (fw_fv E r)) μ) 0 0 (fw_A E) := by
  refine Met.ofW (cc := cX7_faultOfLoading) (maxL := 3) (ret := (some (.object "LaundryService$Fault"))) (by decide) rfl ?_
  intro p e s m args below meth c s₁ B hml hv
  obtain ⟨ha, hK, hP, hSt⟩ := hv
  have hx := B.exec
  have hb := B.bytes
  have hr := B.returns
  have hts := atoms_spec (ws := fw_ws yX7_faultOfLoading cX7_faultOfLoading 3 (some (.object "LaundryService$Fault"))) B.pre
  have hU : ∀ w ∈ fw_U, w.before args s = true := fun w hw => hts w (List.mem_cons_of_mem _ hw)
  have hown : s.vm.findClass RX7 = some m.cls := findClass_of_methodNamed B.named
  have hlocks := B.notSynchronized
  have EN : ∀ (H : Heap) (locs : List Loc) (ls : Array Slot), fw_P E o d μ H → va_S (fw_A E) s.heap H locs → lv_has ls 3 [(0, .ref (fw_ad E j0 0)), (1, .int x1), (2, .int x2)] → W p l e (headSpec (fw_ws yX7_faultOfLoading cX7_faultOfLoading 3 (some (.object "LaundryService$Fault"))) ({ frames := 2, cells := 0, slots := 0, locals := 44 } : Room)).room s m args below meth c H locs 0 0 (MQ below (fw_Q E o d (some (fw_fv E r)) μ) args s 0 0 (fw_A E)) (F0 m 0 ls []) := by
    intro H locs ls hP hS hl
    unfold f_X7_faultOfLoading at h
    refine lv_aload_n hx hb dX7_faultOfLoading_0 rfl (lv_at hl 0 rfl) ?_
    refine lv_iload_n hx hb dX7_faultOfLoading_1 rfl (lv_at hl 1 rfl) ?_
    obtain ⟨r1, hc1, h⟩ := fw_b1_e h
    refine fw_ret (va_runV (As := [.int x1]) (rest := []) ⟨hx, hb, hml, hown, hU⟩ (k_X7_isGarment l hE hj0 x1 hc1) (cwV 1 hU (fw_gV m_544 m_545 m_546 m_2 m_547) rfl rfl rfl (by decide +kernel) ⟨(Nat.le_of_ble_eq_true rfl), (Nat.le_of_ble_eq_true rfl)⟩) ⟨fw_blind, fw_recv hK hP (fw_Vs (f := 0) (by decide) hj0) rfl rfl, fun U hU9 hW9 => ⟨rfl, fw_pre hK hP hSt hS U hU9 hW9⟩⟩ rfl rfl hl.1 rfl (lv_room (Nat.le_of_ble_eq_true rfl)) dX7_faultOfLoading_2 ⟨Nat.zero_le _, Nat.zero_le _⟩) hS (fun H locs hP hS => ?_)
    refine lv_if_eq (tgt := 15) hx hb dX7_faultOfLoading_5 (by decide) (fun c2 => ?_) (fun c2 => ?_)
    · rw [if_pos c2] at h
      refine va_gets (v := fw_fv E (1 : Int32)) hx hb (fw_zf_INDEX hSt) hS hown (hU (Cond.fieldLink RX7 49 "LaundryService$Fault" "INDEX" "LLaundryService$Fault;") m_431) (fun _ h9 => h9) dX7_faultOfLoading_15 ?_
      exact W.aret (v := fw_fv E (1 : Int32)) hx hb hr (Or.inl ⟨_, rfl⟩) (Or.inr ⟨_, rfl⟩) (fw_er (mk := fw_fv E) h hP hS) hS.2.2 dX7_faultOfLoading_18
    · rw [if_neg c2] at h
      refine lv_iload_n hx hb dX7_faultOfLoading_8 rfl (lv_at hl 2 rfl) ?_
      obtain ⟨r3, hc3, h⟩ := fw_b1_e h
      refine fw_ret (va_runSN (As := [.int x2]) (rest := []) ⟨hx, hb, hml, hown, hU⟩ (k_X9_isMachine l hE x2 hc3) ⟨va_cnB 1 hU (fw_gC m_550) rfl rfl rfl (hSt.1.1 _ (List.mem_of_getElem? (i := 1) rfl)) (hU (Cond.initialized RX9) m_1) (by decide +kernel) ⟨(Nat.le_of_ble_eq_true rfl), (Nat.le_of_ble_eq_true rfl)⟩, (hU (Cond.static yX9_isMachine) m_549), trivial⟩ ⟨fw_blind, fun U hU9 hW9 => ⟨rfl, fw_pre hK hP hSt hS U hU9 hW9⟩⟩ rfl rfl hl.1 rfl (lv_room (Nat.le_of_ble_eq_true rfl)) dX7_faultOfLoading_9 ⟨Nat.zero_le _, Nat.zero_le _⟩) hS (fun H locs hP hS => ?_)
      refine lv_if_ne (tgt := 19) hx hb dX7_faultOfLoading_12 (by decide) (fun c4 => ?_) (fun c4 => ?_)
      · rw [if_neg c4] at h
        refine lv_aload_n hx hb dX7_faultOfLoading_19 rfl (lv_at hl 0 rfl) ?_
        refine va_get (D := fw_D E) (ci := 6) (v := .ref (fw_ad E j0 5)) (C := RX7) (T := TX7) (N := 10) hx hb hU inU7 hown hK (fw_at hP (fw_Vs (f := 0) (by decide) hj0)) 0 rfl rfl 4 (by decide) (hU (Cond.fieldLink RX7 25 "LaundryService$State" "places" "[I") m_59) (fun _ h9 => h9) rfl dX7_faultOfLoading_20 ?_
        refine lv_iload_n hx hb dX7_faultOfLoading_23 rfl (lv_at hl 1 rfl) ?_
        obtain ⟨g5, h⟩ := fw_g_e h
        refine va_iald (D := fw_D E) hx hb hK (fw_at hP (fw_Vs (f := 5) (by decide) hj0)) 0 0 rfl rfl (fw_in_e g5) dX7_faultOfLoading_24 ?_
        refine lv_if_eq (tgt := 32) hx hb dX7_faultOfLoading_25 (by decide) (fun c6 => ?_) (fun c6 => ?_)
        · rw [if_pos c6] at h
          refine lv_aload_n hx hb dX7_faultOfLoading_32 rfl (lv_at hl 0 rfl) ?_
          refine lv_iload_n hx hb dX7_faultOfLoading_33 rfl (lv_at hl 2 rfl) ?_
          obtain ⟨r7, hc7, h⟩ := fw_b1_e h
          refine fw_ret (va_runV (As := [.int x2]) (rest := []) ⟨hx, hb, hml, hown, hU⟩ (k_X7_countIn l hE hj0 x2 hc7) (cwV 1 hU (fw_gV m_552 m_263 m_264 m_2 m_265) rfl rfl rfl (by decide +kernel) ⟨(Nat.le_of_ble_eq_true rfl), (Nat.le_of_ble_eq_true rfl)⟩) ⟨fw_blind, fw_recv hK hP (fw_Vs (f := 0) (by decide) hj0) rfl rfl, fun U hU9 hW9 => ⟨rfl, fw_pre hK hP hSt hS U hU9 hW9⟩⟩ rfl rfl hl.1 rfl (lv_room (Nat.le_of_ble_eq_true rfl)) dX7_faultOfLoading_34 ⟨Nat.zero_le _, Nat.zero_le _⟩) hS (fun H locs hP hS => ?_)
          refine lv_iconst (v := (5 : Int32)) hx hb dX7_faultOfLoading_37 (by decide) ?_
          refine lv_icmp_lt (tgt := 47) hx hb dX7_faultOfLoading_38 (by decide) (fun c8 => ?_) (fun c8 => ?_)
          · rw [if_pos c8] at h
            refine va_gets (v := fw_fv E (0 : Int32)) hx hb (fw_zf_NONE hSt) hS hown (hU (Cond.fieldLink RX7 61 "LaundryService$Fault" "NONE" "LLaundryService$Fault;") m_437) (fun _ h9 => h9) dX7_faultOfLoading_47 ?_
            exact W.aret (v := fw_fv E (0 : Int32)) hx hb hr (Or.inl ⟨_, rfl⟩) (Or.inr ⟨_, rfl⟩) (fw_er (mk := fw_fv E) h hP hS) hS.2.2 dX7_faultOfLoading_50
          · rw [if_neg c8] at h
            refine va_gets (v := fw_fv E (4 : Int32)) hx hb (fw_zf_STATE hSt) hS hown (hU (Cond.fieldLink RX7 58 "LaundryService$Fault" "STATE" "LLaundryService$Fault;") m_435) (fun _ h9 => h9) dX7_faultOfLoading_41 ?_
            refine lv_goto (tgt := 50) hx hb dX7_faultOfLoading_44 (by decide) ?_
            exact W.aret (v := fw_fv E (4 : Int32)) hx hb hr (Or.inl ⟨_, rfl⟩) (Or.inr ⟨_, rfl⟩) (fw_er (mk := fw_fv E) h hP hS) hS.2.2 dX7_faultOfLoading_50
        · rw [if_neg c6] at h
          refine va_gets (v := fw_fv E (3 : Int32)) hx hb (fw_zf_PLACE hSt) hS hown (hU (Cond.fieldLink RX7 70 "LaundryService$Fault" "PLACE" "LLaundryService$Fault;") m_551) (fun _ h9 => h9) dX7_faultOfLoading_28 ?_
          exact W.aret (v := fw_fv E (3 : Int32)) hx hb hr (Or.inl ⟨_, rfl⟩) (Or.inr ⟨_, rfl⟩) (fw_er (mk := fw_fv E) h hP hS) hS.2.2 dX7_faultOfLoading_31
      · rw [if_pos c4] at h
        refine va_gets (v := fw_fv E (1 : Int32)) hx hb (fw_zf_INDEX hSt) hS hown (hU (Cond.fieldLink RX7 49 "LaundryService$Fault" "INDEX" "LLaundryService$Fault;") m_431) (fun _ h9 => h9) dX7_faultOfLoading_15 ?_
        exact W.aret (v := fw_fv E (1 : Int32)) hx hb hr (Or.inl ⟨_, rfl⟩) (Or.inr ⟨_, rfl⟩) (fw_er (mk := fw_fv E) h hP hS) hS.2.2 dX7_faultOfLoading_18
  subst ha
  have hl := lv_entry ([.ref (fw_ad E j0 0), .int x1, .int x2]) (n := 3) (Nat.le_of_ble_eq_true rfl)
  rw [lg_entry_eq]
  generalize (lg_sl ([.ref (fw_ad E j0 0), .int x1, .int x2]) ++ List.replicate (3 - (lg_sl ([.ref (fw_ad E j0 0), .int x1, .int x2])).length) Slot.unset).toArray = ls at hl ⊢
  exact EN s.heap [] ls hP va_S.rf hl
set_option maxHeartbeats 4000000 in
set_option maxRecDepth 100000 in
theorem k_X7_faultOfTakingOut (l : Launch) {E : fw_E} {o : Int64} {d : UInt64} (hE : fw_ok E) {μ : fw_M} {j0 : Nat} (hj0 : j0 < 12) (x1 : Int32) {r : Int32} (h : f_X7_faultOfTakingOut μ j0 x1 = some r) : Met l yX7_faultOfTakingOut (fw_ws yX7_faultOfTakingOut cX7_faultOfTakingOut 3 (some (.object "LaundryService$Fault"))) ({ frames := 1, cells := 0, slots := 0, locals := 21 } : Room) (va_Pc [.ref (fw_ad E j0 0), .int x1] (fw_Pre E o d μ)) (fw_Q E o d (some (fw_fv E r)) μ) 0 0 (fw_A E) := by
  refine Met.ofW (cc := cX7_faultOfTakingOut) (maxL := 3) (ret := (some (.object "LaundryService$Fault"))) (by decide) rfl ?_
  intro p e s m args below meth c s₁ B hml hv
  obtain ⟨ha, hK, hP, hSt⟩ := hv
  have hx := B.exec
  have hb := B.bytes
  have hr := B.returns
  have hts := atoms_spec (ws := fw_ws yX7_faultOfTakingOut cX7_faultOfTakingOut 3 (some (.object "LaundryService$Fault"))) B.pre
  have hU : ∀ w ∈ fw_U, w.before args s = true := fun w hw => hts w (List.mem_cons_of_mem _ hw)
  have hown : s.vm.findClass RX7 = some m.cls := findClass_of_methodNamed B.named
  have hlocks := B.notSynchronized
  have EN : ∀ (H : Heap) (locs : List Loc) (ls : Array Slot), fw_P E o d μ H → va_S (fw_A E) s.heap H locs → lv_has ls 3 [(0, .ref (fw_ad E j0 0)), (1, .int x1)] → W p l e (headSpec (fw_ws yX7_faultOfTakingOut cX7_faultOfTakingOut 3 (some (.object "LaundryService$Fault"))) ({ frames := 1, cells := 0, slots := 0, locals := 21 } : Room)).room s m args below meth c H locs 0 0 (MQ below (fw_Q E o d (some (fw_fv E r)) μ) args s 0 0 (fw_A E)) (F0 m 0 ls []) := by
    intro H locs ls hP hS hl
    unfold f_X7_faultOfTakingOut at h
    refine lv_aload_n hx hb dX7_faultOfTakingOut_0 rfl (lv_at hl 0 rfl) ?_
    refine lv_iload_n hx hb dX7_faultOfTakingOut_1 rfl (lv_at hl 1 rfl) ?_
    obtain ⟨r1, hc1, h⟩ := fw_b1_e h
    refine fw_ret (va_runV (As := [.int x1]) (rest := []) ⟨hx, hb, hml, hown, hU⟩ (k_X7_isGarment l hE hj0 x1 hc1) (cwV 1 hU (fw_gV m_544 m_545 m_546 m_2 m_547) rfl rfl rfl (by decide +kernel) ⟨(Nat.le_of_ble_eq_true rfl), (Nat.le_of_ble_eq_true rfl)⟩) ⟨fw_blind, fw_recv hK hP (fw_Vs (f := 0) (by decide) hj0) rfl rfl, fun U hU9 hW9 => ⟨rfl, fw_pre hK hP hSt hS U hU9 hW9⟩⟩ rfl rfl hl.1 rfl (lv_room (Nat.le_of_ble_eq_true rfl)) dX7_faultOfTakingOut_2 ⟨Nat.zero_le _, Nat.zero_le _⟩) hS (fun H locs hP hS => ?_)
    refine lv_if_ne (tgt := 12) hx hb dX7_faultOfTakingOut_5 (by decide) (fun c2 => ?_) (fun c2 => ?_)
    · rw [if_neg c2] at h
      refine lv_aload_n hx hb dX7_faultOfTakingOut_12 rfl (lv_at hl 0 rfl) ?_
      refine va_get (D := fw_D E) (ci := 6) (v := .ref (fw_ad E j0 5)) (C := RX7) (T := TX7) (N := 10) hx hb hU inU7 hown hK (fw_at hP (fw_Vs (f := 0) (by decide) hj0)) 0 rfl rfl 4 (by decide) (hU (Cond.fieldLink RX7 25 "LaundryService$State" "places" "[I") m_59) (fun _ h9 => h9) rfl dX7_faultOfTakingOut_13 ?_
      refine lv_iload_n hx hb dX7_faultOfTakingOut_16 rfl (lv_at hl 1 rfl) ?_
      obtain ⟨g3, h⟩ := fw_g_e h
      refine va_iald (D := fw_D E) hx hb hK (fw_at hP (fw_Vs (f := 5) (by decide) hj0)) 0 0 rfl rfl (fw_in_e g3) dX7_faultOfTakingOut_17 ?_
      refine lv_if_eq (tgt := 35) hx hb dX7_faultOfTakingOut_18 (by decide) (fun c4 => ?_) (fun c4 => ?_)
      · rw [if_pos c4] at h
        refine lv_iconst (v := (0 : Int32)) hx hb dX7_faultOfTakingOut_35 (by decide) ?_
        refine lv_istore_n (lv' := [(2, .int (0 : Int32)), (0, .ref (fw_ad E j0 0)), (1, .int x1)]) hx hb dX7_faultOfTakingOut_36 rfl hl (by decide) rfl (fun ls hl => ?_)
        refine lv_iload_n hx hb dX7_faultOfTakingOut_37 rfl (lv_at hl 0 rfl) ?_
        refine lv_if_eq (tgt := 47) hx hb dX7_faultOfTakingOut_38 (by decide) (fun c5 => ?_) (fun c5 => absurd (by decide) c5)
        refine va_gets (v := fw_fv E (3 : Int32)) hx hb (fw_zf_PLACE hSt) hS hown (hU (Cond.fieldLink RX7 70 "LaundryService$Fault" "PLACE" "LLaundryService$Fault;") m_551) (fun _ h9 => h9) dX7_faultOfTakingOut_47 ?_
        exact W.aret (v := fw_fv E (3 : Int32)) hx hb hr (Or.inl ⟨_, rfl⟩) (Or.inr ⟨_, rfl⟩) (fw_er (mk := fw_fv E) h hP hS) hS.2.2 dX7_faultOfTakingOut_50
      · rw [if_neg c4] at h
        refine lv_aload_n hx hb dX7_faultOfTakingOut_21 rfl (lv_at hl 0 rfl) ?_
        refine va_get (D := fw_D E) (ci := 6) (v := .ref (fw_ad E j0 5)) (C := RX7) (T := TX7) (N := 10) hx hb hU inU7 hown hK (fw_at hP (fw_Vs (f := 0) (by decide) hj0)) 0 rfl rfl 4 (by decide) (hU (Cond.fieldLink RX7 25 "LaundryService$State" "places" "[I") m_59) (fun _ h9 => h9) rfl dX7_faultOfTakingOut_22 ?_
        refine lv_iload_n hx hb dX7_faultOfTakingOut_25 rfl (lv_at hl 1 rfl) ?_
        refine va_iald (D := fw_D E) hx hb hK (fw_at hP (fw_Vs (f := 5) (by decide) hj0)) 0 0 rfl rfl (fw_in_e g3) dX7_faultOfTakingOut_26 ?_
        refine lv_iconst (v := (3 : Int32)) hx hb dX7_faultOfTakingOut_27 (by decide) ?_
        refine lv_icmp_eq (tgt := 35) hx hb dX7_faultOfTakingOut_28 (by decide) (fun c6 => ?_) (fun c6 => ?_)
        · rw [if_pos c6] at h
          refine lv_iconst (v := (0 : Int32)) hx hb dX7_faultOfTakingOut_35 (by decide) ?_
          refine lv_istore_n (lv' := [(2, .int (0 : Int32)), (0, .ref (fw_ad E j0 0)), (1, .int x1)]) hx hb dX7_faultOfTakingOut_36 rfl hl (by decide) rfl (fun ls hl => ?_)
          refine lv_iload_n hx hb dX7_faultOfTakingOut_37 rfl (lv_at hl 0 rfl) ?_
          refine lv_if_eq (tgt := 47) hx hb dX7_faultOfTakingOut_38 (by decide) (fun c7 => ?_) (fun c7 => absurd (by decide) c7)
          refine va_gets (v := fw_fv E (3 : Int32)) hx hb (fw_zf_PLACE hSt) hS hown (hU (Cond.fieldLink RX7 70 "LaundryService$Fault" "PLACE" "LLaundryService$Fault;") m_551) (fun _ h9 => h9) dX7_faultOfTakingOut_47 ?_
          exact W.aret (v := fw_fv E (3 : Int32)) hx hb hr (Or.inl ⟨_, rfl⟩) (Or.inr ⟨_, rfl⟩) (fw_er (mk := fw_fv E) h hP hS) hS.2.2 dX7_faultOfTakingOut_50
        · rw [if_neg c6] at h
          refine lv_iconst (v := (1 : Int32)) hx hb dX7_faultOfTakingOut_31 (by decide) ?_
          refine lv_goto (tgt := 36) hx hb dX7_faultOfTakingOut_32 (by decide) ?_
          refine lv_istore_n (lv' := [(2, .int (1 : Int32)), (0, .ref (fw_ad E j0 0)), (1, .int x1)]) hx hb dX7_faultOfTakingOut_36 rfl hl (by decide) rfl (fun ls hl => ?_)
          refine lv_iload_n hx hb dX7_faultOfTakingOut_37 rfl (lv_at hl 0 rfl) ?_
          refine lv_if_eq (tgt := 47) hx hb dX7_faultOfTakingOut_38 (by decide) (fun c8 => absurd c8 (by decide)) (fun c8 => ?_)
          refine va_gets (v := fw_fv E (0 : Int32)) hx hb (fw_zf_NONE hSt) hS hown (hU (Cond.fieldLink RX7 61 "LaundryService$Fault" "NONE" "LLaundryService$Fault;") m_437) (fun _ h9 => h9) dX7_faultOfTakingOut_41 ?_
          refine lv_goto (tgt := 50) hx hb dX7_faultOfTakingOut_44 (by decide) ?_
          exact W.aret (v := fw_fv E (0 : Int32)) hx hb hr (Or.inl ⟨_, rfl⟩) (Or.inr ⟨_, rfl⟩) (fw_er (mk := fw_fv E) h hP hS) hS.2.2 dX7_faultOfTakingOut_50
    · rw [if_pos c2] at h
      refine va_gets (v := fw_fv E (1 : Int32)) hx hb (fw_zf_INDEX hSt) hS hown (hU (Cond.fieldLink RX7 49 "LaundryService$Fault" "INDEX" "LLaundryService$Fault;") m_431) (fun _ h9 => h9) dX7_faultOfTakingOut_8 ?_
      exact W.aret (v := fw_fv E (1 : Int32)) hx hb hr (Or.inl ⟨_, rfl⟩) (Or.inr ⟨_, rfl⟩) (fw_er (mk := fw_fv E) h hP hS) hS.2.2 dX7_faultOfTakingOut_11
  subst ha
  have hl := lv_entry ([.ref (fw_ad E j0 0), .int x1]) (n := 3) (Nat.le_of_ble_eq_true rfl)
  rw [lg_entry_eq]
  generalize (lg_sl ([.ref (fw_ad E j0 0), .int x1]) ++ List.replicate (3 - (lg_sl ([.ref (fw_ad E j0 0), .int x1])).length) Slot.unset).toArray = ls at hl ⊢
  exact EN s.heap [] ls hP va_S.rf hl
set_option maxHeartbeats 4000000 in
set_option maxRecDepth 100000 in
theorem k_X7_faultOfHeating (l : Launch) {E : fw_E} {o : Int64} {d : UInt64} (hE : fw_ok E) {μ : fw_M} {j0 : Nat} (hj0 : j0 < 12) (x1 : Int32) (x2 : Int32) {r : Int32} (h : f_X7_faultOfHeating μ j0 x1 x2 = some r) : Met l yX7_faultOfHeating (fw_ws yX7_faultOfHeating cX7_faultOfHeating 4 (some (.object "LaundryService$Fault"))) ({ frames := 1, cells := 0, slots := 0, locals := 20 } : Room) (va_Pc [.ref (fw_ad E j0 0), .int x1, .int x2] (fw_Pre E o d μ)) (fw_Q E o d (some (fw_fv E r)) μ) 0 0 (fw_A E) := by
  refine Met.ofW (cc := cX7_faultOfHeating) (maxL := 4) (ret := (some (.object "LaundryService$Fault"))) (by decide) rfl ?_
  intro p e s m args below meth c s₁ B hml hv
  obtain ⟨ha, hK, hP, hSt⟩ := hv
  have hx := B.exec
  have hb := B.bytes
  have hr := B.returns
  have hts := atoms_spec (ws := fw_ws yX7_faultOfHeating cX7_faultOfHeating 4 (some (.object "LaundryService$Fault"))) B.pre
  have hU : ∀ w ∈ fw_U, w.before args s = true := fun w hw => hts w (List.mem_cons_of_mem _ hw)
  have hown : s.vm.findClass RX7 = some m.cls := findClass_of_methodNamed B.named
  have hlocks := B.notSynchronized
  have EN : ∀ (H : Heap) (locs : List Loc) (ls : Array Slot), fw_P E o d μ H → va_S (fw_A E) s.heap H locs → lv_has ls 4 [(0, .ref (fw_ad E j0 0)), (1, .int x1), (2, .int x2)] → W p l e (headSpec (fw_ws yX7_faultOfHeating cX7_faultOfHeating 4 (some (.object "LaundryService$Fault"))) ({ frames := 1, cells := 0, slots := 0, locals := 20 } : Room)).room s m args below meth c H locs 0 0 (MQ below (fw_Q E o d (some (fw_fv E r)) μ) args s 0 0 (fw_A E)) (F0 m 0 ls []) := by
    intro H locs ls hP hS hl
    unfold f_X7_faultOfHeating at h
    refine lv_iload_n hx hb dX7_faultOfHeating_0 rfl (lv_at hl 1 rfl) ?_
    obtain ⟨r1, hc1, h⟩ := fw_b1_e h
    refine fw_ret (va_runSN (As := [.int x1]) (rest := []) ⟨hx, hb, hml, hown, hU⟩ (k_X9_isMachine l hE x1 hc1) ⟨va_cnB 1 hU (fw_gC m_550) rfl rfl rfl (hSt.1.1 _ (List.mem_of_getElem? (i := 1) rfl)) (hU (Cond.initialized RX9) m_1) (by decide +kernel) ⟨(Nat.le_of_ble_eq_true rfl), (Nat.le_of_ble_eq_true rfl)⟩, (hU (Cond.static yX9_isMachine) m_549), trivial⟩ ⟨fw_blind, fun U hU9 hW9 => ⟨rfl, fw_pre hK hP hSt hS U hU9 hW9⟩⟩ rfl rfl hl.1 rfl (lv_room (Nat.le_of_ble_eq_true rfl)) dX7_faultOfHeating_1 ⟨Nat.zero_le _, Nat.zero_le _⟩) hS (fun H locs hP hS => ?_)
    refine lv_if_ne (tgt := 11) hx hb dX7_faultOfHeating_4 (by decide) (fun c2 => ?_) (fun c2 => ?_)
    · rw [if_neg c2] at h
      refine lv_iload_n hx hb dX7_faultOfHeating_11 rfl (lv_at hl 2 rfl) ?_
      refine lv_bipush (v := (40 : Int32)) hx hb dX7_faultOfHeating_12 (by decide) ?_
      refine lv_icmp_lt (tgt := 28) hx hb dX7_faultOfHeating_14 (by decide) (fun c3 => ?_) (fun c3 => ?_)
      · rw [if_pos c3] at h
        refine lv_iconst (v := (0 : Int32)) hx hb dX7_faultOfHeating_28 (by decide) ?_
        refine lv_istore_n (lv' := [(3, .int (0 : Int32)), (0, .ref (fw_ad E j0 0)), (1, .int x1), (2, .int x2)]) hx hb dX7_faultOfHeating_29 rfl hl (by decide) rfl (fun ls hl => ?_)
        refine lv_iload_n hx hb dX7_faultOfHeating_30 rfl (lv_at hl 0 rfl) ?_
        refine lv_if_eq (tgt := 40) hx hb dX7_faultOfHeating_31 (by decide) (fun c4 => ?_) (fun c4 => absurd (by decide) c4)
        refine va_gets (v := fw_fv E (2 : Int32)) hx hb (fw_zf_ARGUMENT hSt) hS hown (hU (Cond.fieldLink RX7 55 "LaundryService$Fault" "ARGUMENT" "LLaundryService$Fault;") m_433) (fun _ h9 => h9) dX7_faultOfHeating_40 ?_
        exact W.aret (v := fw_fv E (2 : Int32)) hx hb hr (Or.inl ⟨_, rfl⟩) (Or.inr ⟨_, rfl⟩) (fw_er (mk := fw_fv E) h hP hS) hS.2.2 dX7_faultOfHeating_43
      · rw [if_neg c3] at h
        refine lv_iload_n hx hb dX7_faultOfHeating_17 rfl (lv_at hl 2 rfl) ?_
        refine lv_sipush (v := (180 : Int32)) hx hb dX7_faultOfHeating_18 (by decide) ?_
        refine lv_icmp_gt (tgt := 28) hx hb dX7_faultOfHeating_21 (by decide) (fun c5 => ?_) (fun c5 => ?_)
        · rw [if_pos c5] at h
          refine lv_iconst (v := (0 : Int32)) hx hb dX7_faultOfHeating_28 (by decide) ?_
          refine lv_istore_n (lv' := [(3, .int (0 : Int32)), (0, .ref (fw_ad E j0 0)), (1, .int x1), (2, .int x2)]) hx hb dX7_faultOfHeating_29 rfl hl (by decide) rfl (fun ls hl => ?_)
          refine lv_iload_n hx hb dX7_faultOfHeating_30 rfl (lv_at hl 0 rfl) ?_
          refine lv_if_eq (tgt := 40) hx hb dX7_faultOfHeating_31 (by decide) (fun c6 => ?_) (fun c6 => absurd (by decide) c6)
          refine va_gets (v := fw_fv E (2 : Int32)) hx hb (fw_zf_ARGUMENT hSt) hS hown (hU (Cond.fieldLink RX7 55 "LaundryService$Fault" "ARGUMENT" "LLaundryService$Fault;") m_433) (fun _ h9 => h9) dX7_faultOfHeating_40 ?_
          exact W.aret (v := fw_fv E (2 : Int32)) hx hb hr (Or.inl ⟨_, rfl⟩) (Or.inr ⟨_, rfl⟩) (fw_er (mk := fw_fv E) h hP hS) hS.2.2 dX7_faultOfHeating_43
        · rw [if_neg c5] at h
          refine lv_iconst (v := (1 : Int32)) hx hb dX7_faultOfHeating_24 (by decide) ?_
          refine lv_goto (tgt := 29) hx hb dX7_faultOfHeating_25 (by decide) ?_
          refine lv_istore_n (lv' := [(3, .int (1 : Int32)), (0, .ref (fw_ad E j0 0)), (1, .int x1), (2, .int x2)]) hx hb dX7_faultOfHeating_29 rfl hl (by decide) rfl (fun ls hl => ?_)
          refine lv_iload_n hx hb dX7_faultOfHeating_30 rfl (lv_at hl 0 rfl) ?_
          refine lv_if_eq (tgt := 40) hx hb dX7_faultOfHeating_31 (by decide) (fun c7 => absurd c7 (by decide)) (fun c7 => ?_)
          refine va_gets (v := fw_fv E (0 : Int32)) hx hb (fw_zf_NONE hSt) hS hown (hU (Cond.fieldLink RX7 61 "LaundryService$Fault" "NONE" "LLaundryService$Fault;") m_437) (fun _ h9 => h9) dX7_faultOfHeating_34 ?_
          refine lv_goto (tgt := 43) hx hb dX7_faultOfHeating_37 (by decide) ?_
          exact W.aret (v := fw_fv E (0 : Int32)) hx hb hr (Or.inl ⟨_, rfl⟩) (Or.inr ⟨_, rfl⟩) (fw_er (mk := fw_fv E) h hP hS) hS.2.2 dX7_faultOfHeating_43
    · rw [if_pos c2] at h
      refine va_gets (v := fw_fv E (1 : Int32)) hx hb (fw_zf_INDEX hSt) hS hown (hU (Cond.fieldLink RX7 49 "LaundryService$Fault" "INDEX" "LLaundryService$Fault;") m_431) (fun _ h9 => h9) dX7_faultOfHeating_7 ?_
      exact W.aret (v := fw_fv E (1 : Int32)) hx hb hr (Or.inl ⟨_, rfl⟩) (Or.inr ⟨_, rfl⟩) (fw_er (mk := fw_fv E) h hP hS) hS.2.2 dX7_faultOfHeating_10
  subst ha
  have hl := lv_entry ([.ref (fw_ad E j0 0), .int x1, .int x2]) (n := 4) (Nat.le_of_ble_eq_true rfl)
  rw [lg_entry_eq]
  generalize (lg_sl ([.ref (fw_ad E j0 0), .int x1, .int x2]) ++ List.replicate (4 - (lg_sl ([.ref (fw_ad E j0 0), .int x1, .int x2])).length) Slot.unset).toArray = ls at hl ⊢
  exact EN s.heap [] ls hP va_S.rf hl
set_option maxHeartbeats 4000000 in
set_option maxRecDepth 100000 in
theorem k_X7_faultOfRunning (l : Launch) {E : fw_E} {o : Int64} {d : UInt64} (hE : fw_ok E) {μ : fw_M} {j0 : Nat} (hj0 : j0 < 12) (x1 : Int32) {r : Int32} (h : f_X7_faultOfRunning μ j0 x1 = some r) : Met l yX7_faultOfRunning (fw_ws yX7_faultOfRunning cX7_faultOfRunning 2 (some (.object "LaundryService$Fault"))) ({ frames := 2, cells := 0, slots := 0, locals := 44 } : Room) (va_Pc [.ref (fw_ad E j0 0), .int x1] (fw_Pre E o d μ)) (fw_Q E o d (some (fw_fv E r)) μ) 0 0 (fw_A E) := by
  refine Met.ofW (cc := cX7_faultOfRunning) (maxL := 2) (ret := (some (.object "LaundryService$Fault"))) (by decide) rfl ?_
  intro p e s m args below meth c s₁ B hml hv
  obtain ⟨ha, hK, hP, hSt⟩ := hv
  have hx := B.exec
  have hb := B.bytes
  have hr := B.returns
  have hts := atoms_spec (ws := fw_ws yX7_faultOfRunning cX7_faultOfRunning 2 (some (.object "LaundryService$Fault"))) B.pre
  have hU : ∀ w ∈ fw_U, w.before args s = true := fun w hw => hts w (List.mem_cons_of_mem _ hw)
  have hown : s.vm.findClass RX7 = some m.cls := findClass_of_methodNamed B.named
  have hlocks := B.notSynchronized
  have EN : ∀ (H : Heap) (locs : List Loc) (ls : Array Slot), fw_P E o d μ H → va_S (fw_A E) s.heap H locs → lv_has ls 2 [(0, .ref (fw_ad E j0 0)), (1, .int x1)] → W p l e (headSpec (fw_ws yX7_faultOfRunning cX7_faultOfRunning 2 (some (.object "LaundryService$Fault"))) ({ frames := 2, cells := 0, slots := 0, locals := 44 } : Room)).room s m args below meth c H locs 0 0 (MQ below (fw_Q E o d (some (fw_fv E r)) μ) args s 0 0 (fw_A E)) (F0 m 0 ls []) := by
    intro H locs ls hP hS hl
    unfold f_X7_faultOfRunning at h
    refine lv_iload_n hx hb dX7_faultOfRunning_0 rfl (lv_at hl 1 rfl) ?_
    obtain ⟨r1, hc1, h⟩ := fw_b1_e h
    refine fw_ret (va_runSN (As := [.int x1]) (rest := []) ⟨hx, hb, hml, hown, hU⟩ (k_X9_isMachine l hE x1 hc1) ⟨va_cnB 1 hU (fw_gC m_550) rfl rfl rfl (hSt.1.1 _ (List.mem_of_getElem? (i := 1) rfl)) (hU (Cond.initialized RX9) m_1) (by decide +kernel) ⟨(Nat.le_of_ble_eq_true rfl), (Nat.le_of_ble_eq_true rfl)⟩, (hU (Cond.static yX9_isMachine) m_549), trivial⟩ ⟨fw_blind, fun U hU9 hW9 => ⟨rfl, fw_pre hK hP hSt hS U hU9 hW9⟩⟩ rfl rfl hl.1 rfl (lv_room (Nat.le_of_ble_eq_true rfl)) dX7_faultOfRunning_1 ⟨Nat.zero_le _, Nat.zero_le _⟩) hS (fun H locs hP hS => ?_)
    refine lv_if_ne (tgt := 11) hx hb dX7_faultOfRunning_4 (by decide) (fun c2 => ?_) (fun c2 => ?_)
    · rw [if_neg c2] at h
      refine lv_aload_n hx hb dX7_faultOfRunning_11 rfl (lv_at hl 0 rfl) ?_
      refine lv_iload_n hx hb dX7_faultOfRunning_12 rfl (lv_at hl 1 rfl) ?_
      obtain ⟨r3, hc3, h⟩ := fw_b1_e h
      refine fw_ret (va_runV (As := [.int x1]) (rest := []) ⟨hx, hb, hml, hown, hU⟩ (k_X7_countIn l hE hj0 x1 hc3) (cwV 1 hU (fw_gV m_552 m_263 m_264 m_2 m_265) rfl rfl rfl (by decide +kernel) ⟨(Nat.le_of_ble_eq_true rfl), (Nat.le_of_ble_eq_true rfl)⟩) ⟨fw_blind, fw_recv hK hP (fw_Vs (f := 0) (by decide) hj0) rfl rfl, fun U hU9 hW9 => ⟨rfl, fw_pre hK hP hSt hS U hU9 hW9⟩⟩ rfl rfl hl.1 rfl (lv_room (Nat.le_of_ble_eq_true rfl)) dX7_faultOfRunning_13 ⟨Nat.zero_le _, Nat.zero_le _⟩) hS (fun H locs hP hS => ?_)
      refine lv_if_ne (tgt := 25) hx hb dX7_faultOfRunning_16 (by decide) (fun c4 => ?_) (fun c4 => ?_)
      · rw [if_neg c4] at h
        refine va_gets (v := fw_fv E (0 : Int32)) hx hb (fw_zf_NONE hSt) hS hown (hU (Cond.fieldLink RX7 61 "LaundryService$Fault" "NONE" "LLaundryService$Fault;") m_437) (fun _ h9 => h9) dX7_faultOfRunning_25 ?_
        exact W.aret (v := fw_fv E (0 : Int32)) hx hb hr (Or.inl ⟨_, rfl⟩) (Or.inr ⟨_, rfl⟩) (fw_er (mk := fw_fv E) h hP hS) hS.2.2 dX7_faultOfRunning_28
      · rw [if_pos c4] at h
        refine va_gets (v := fw_fv E (4 : Int32)) hx hb (fw_zf_STATE hSt) hS hown (hU (Cond.fieldLink RX7 58 "LaundryService$Fault" "STATE" "LLaundryService$Fault;") m_435) (fun _ h9 => h9) dX7_faultOfRunning_19 ?_
        refine lv_goto (tgt := 28) hx hb dX7_faultOfRunning_22 (by decide) ?_
        exact W.aret (v := fw_fv E (4 : Int32)) hx hb hr (Or.inl ⟨_, rfl⟩) (Or.inr ⟨_, rfl⟩) (fw_er (mk := fw_fv E) h hP hS) hS.2.2 dX7_faultOfRunning_28
    · rw [if_pos c2] at h
      refine va_gets (v := fw_fv E (1 : Int32)) hx hb (fw_zf_INDEX hSt) hS hown (hU (Cond.fieldLink RX7 49 "LaundryService$Fault" "INDEX" "LLaundryService$Fault;") m_431) (fun _ h9 => h9) dX7_faultOfRunning_7 ?_
      exact W.aret (v := fw_fv E (1 : Int32)) hx hb hr (Or.inl ⟨_, rfl⟩) (Or.inr ⟨_, rfl⟩) (fw_er (mk := fw_fv E) h hP hS) hS.2.2 dX7_faultOfRunning_10
  subst ha
  have hl := lv_entry ([.ref (fw_ad E j0 0), .int x1]) (n := 2) (Nat.le_of_ble_eq_true rfl)
  rw [lg_entry_eq]
  generalize (lg_sl ([.ref (fw_ad E j0 0), .int x1]) ++ List.replicate (2 - (lg_sl ([.ref (fw_ad E j0 0), .int x1])).length) Slot.unset).toArray = ls at hl ⊢
  exact EN s.heap [] ls hP va_S.rf hl
set_option maxHeartbeats 4000000 in
set_option maxRecDepth 100000 in
theorem k_X7_addGarment (l : Launch) {E : fw_E} {o : Int64} {d : UInt64} (hE : fw_ok E) {μ μ' : fw_M} {j0 : Nat} (hj0 : j0 < 12) (x1 : Int32) (x2 : Int32) (x3 : Int32) (x4 : Int32) {r : Int32} (h : f_X7_addGarment μ j0 x1 x2 x3 x4 = some (μ', r)) : Met l yX7_addGarment (fw_ws yX7_addGarment cX7_addGarment 6 (some .int)) ({ frames := 0, cells := 0, slots := 0, locals := 0 } : Room) (va_Pc [.ref (fw_ad E j0 0), .int x1, .int x2, .int x3, .int x4] (fw_Pre E o d μ)) (fw_Q E o d (some (.int r)) μ') 0 0 (fw_A E) := by
  refine Met.ofW (cc := cX7_addGarment) (maxL := 6) (ret := (some .int)) (by decide) rfl ?_
  intro p e s m args below meth c s₁ B hml hv
  obtain ⟨ha, hK, hP, hSt⟩ := hv
  have hx := B.exec
  have hb := B.bytes
  have hr := B.returns
  have hts := atoms_spec (ws := fw_ws yX7_addGarment cX7_addGarment 6 (some .int)) B.pre
  have hU : ∀ w ∈ fw_U, w.before args s = true := fun w hw => hts w (List.mem_cons_of_mem _ hw)
  have hown : s.vm.findClass RX7 = some m.cls := findClass_of_methodNamed B.named
  have hlocks := B.notSynchronized
  have EN : ∀ (H : Heap) (locs : List Loc) (ls : Array Slot), fw_P E o d μ H → va_S (fw_A E) s.heap H locs → lv_has ls 6 [(0, .ref (fw_ad E j0 0)), (1, .int x1), (2, .int x2), (3, .int x3), (4, .int x4)] → W p l e (headSpec (fw_ws yX7_addGarment cX7_addGarment 6 (some .int)) ({ frames := 0, cells := 0, slots := 0, locals := 0 } : Room)).room s m args below meth c H locs 0 0 (MQ below (fw_Q E o d (some (.int r)) μ') args s 0 0 (fw_A E)) (F0 m 0 ls []) := by
    intro H locs ls hP hS hl
    unfold f_X7_addGarment at h
    refine lv_aload_n hx hb dX7_addGarment_0 rfl (lv_at hl 0 rfl) ?_
    refine va_get (D := fw_D E) (ci := 6) (v := .int (μ j0 0 6)) (C := RX7) (T := TX7) (N := 10) hx hb hU inU7 hown hK (fw_at hP (fw_Vs (f := 0) (by decide) hj0)) 0 rfl rfl 6 (by decide) (hU (Cond.fieldLink RX7 31 "LaundryService$State" "garmentCount" "I") m_65) (fun _ h9 => h9) rfl dX7_addGarment_1 ?_
    refine lv_istore (lv' := [(5, .int (μ j0 0 6)), (0, .ref (fw_ad E j0 0)), (1, .int x1), (2, .int x2), (3, .int x3), (4, .int x4)]) hx hb dX7_addGarment_4 hl (by decide) rfl (fun ls hl => ?_)
    refine lv_aload_n hx hb dX7_addGarment_6 rfl (lv_at hl 1 rfl) ?_
    refine va_get (D := fw_D E) (ci := 6) (v := .ref (fw_ad E j0 1)) (C := RX7) (T := TX7) (N := 10) hx hb hU inU7 hown hK (fw_at hP (fw_Vs (f := 0) (by decide) hj0)) 0 rfl rfl 0 (by decide) (hU (Cond.fieldLink RX7 9 "LaundryService$State" "clients" "[I") m_45) (fun _ h9 => h9) rfl dX7_addGarment_7 ?_
    refine lv_iload hx hb dX7_addGarment_10 (lv_at hl 0 rfl) ?_
    refine lv_iload_n hx hb dX7_addGarment_12 rfl (lv_at hl 2 rfl) ?_
    obtain ⟨g1, h⟩ := fw_g_e h
    refine fw_iast (n := 16) hx hb hK hP hE hS (fw_Vs (f := 1) (by decide) hj0) (fun _ => rfl) (fw_in_e g1) dX7_addGarment_13 (fun H locs hP hS => ?_)
    obtain ⟨μ2, eμ2, h⟩ := fw_l_e h
    rw [← eμ2] at hP
    refine lv_aload_n hx hb dX7_addGarment_14 rfl (lv_at hl 1 rfl) ?_
    refine va_get (D := fw_D E) (ci := 6) (v := .ref (fw_ad E j0 2)) (C := RX7) (T := TX7) (N := 10) hx hb hU inU7 hown hK (fw_at hP (fw_Vs (f := 0) (by decide) hj0)) 0 rfl rfl 1 (by decide) (hU (Cond.fieldLink RX7 15 "LaundryService$State" "socks" "[Z") m_48) (fun _ h9 => h9) rfl dX7_addGarment_15 ?_
    refine lv_iload hx hb dX7_addGarment_18 (lv_at hl 0 rfl) ?_
    refine lv_iload_n hx hb dX7_addGarment_20 rfl (lv_at hl 3 rfl) ?_
    refine fw_zast (n := 16) hx hb hK hP hE hS (fw_Vs (f := 2) (by decide) hj0) (fun _ => rfl) (fw_in_e g1) dX7_addGarment_21 (fun H locs hP hS => ?_)
    obtain ⟨μ3, eμ3, h⟩ := fw_l_e h
    rw [← eμ3] at hP
    refine lv_aload_n hx hb dX7_addGarment_22 rfl (lv_at hl 1 rfl) ?_
    refine va_get (D := fw_D E) (ci := 6) (v := .ref (fw_ad E j0 3)) (C := RX7) (T := TX7) (N := 10) hx hb hU inU7 hown hK (fw_at hP (fw_Vs (f := 0) (by decide) hj0)) 0 rfl rfl 2 (by decide) (hU (Cond.fieldLink RX7 19 "LaundryService$State" "colours" "[I") m_52) (fun _ h9 => h9) rfl dX7_addGarment_23 ?_
    refine lv_iload hx hb dX7_addGarment_26 (lv_at hl 0 rfl) ?_
    refine lv_iload_n hx hb dX7_addGarment_28 rfl (lv_at hl 4 rfl) ?_
    refine fw_iast (n := 16) hx hb hK hP hE hS (fw_Vs (f := 3) (by decide) hj0) (fun _ => rfl) (fw_in_e g1) dX7_addGarment_29 (fun H locs hP hS => ?_)
    obtain ⟨μ4, eμ4, h⟩ := fw_l_e h
    rw [← eμ4] at hP
    refine lv_aload_n hx hb dX7_addGarment_30 rfl (lv_at hl 1 rfl) ?_
    refine va_get (D := fw_D E) (ci := 6) (v := .ref (fw_ad E j0 4)) (C := RX7) (T := TX7) (N := 10) hx hb hU inU7 hown hK (fw_at hP (fw_Vs (f := 0) (by decide) hj0)) 0 rfl rfl 3 (by decide) (hU (Cond.fieldLink RX7 22 "LaundryService$State" "stains" "[I") m_56) (fun _ h9 => h9) rfl dX7_addGarment_31 ?_
    refine lv_iload hx hb dX7_addGarment_34 (lv_at hl 0 rfl) ?_
    refine lv_iload hx hb dX7_addGarment_36 (lv_at hl 5 rfl) ?_
    refine fw_iast (n := 16) hx hb hK hP hE hS (fw_Vs (f := 4) (by decide) hj0) (fun _ => rfl) (fw_in_e g1) dX7_addGarment_38 (fun H locs hP hS => ?_)
    obtain ⟨μ5, eμ5, h⟩ := fw_l_e h
    rw [← eμ5] at hP
    refine lv_aload_n hx hb dX7_addGarment_39 rfl (lv_at hl 1 rfl) ?_
    refine va_get (D := fw_D E) (ci := 6) (v := .ref (fw_ad E j0 5)) (C := RX7) (T := TX7) (N := 10) hx hb hU inU7 hown hK (fw_at hP (fw_Vs (f := 0) (by decide) hj0)) 0 rfl rfl 4 (by decide) (hU (Cond.fieldLink RX7 25 "LaundryService$State" "places" "[I") m_59) (fun _ h9 => h9) rfl dX7_addGarment_40 ?_
    refine lv_iload hx hb dX7_addGarment_43 (lv_at hl 0 rfl) ?_
    refine lv_iconst (v := (0 : Int32)) hx hb dX7_addGarment_45 (by decide) ?_
    refine fw_iast (n := 16) hx hb hK hP hE hS (fw_Vs (f := 5) (by decide) hj0) (fun _ => rfl) (fw_in_e g1) dX7_addGarment_46 (fun H locs hP hS => ?_)
    obtain ⟨μ6, eμ6, h⟩ := fw_l_e h
    rw [← eμ6] at hP
    refine lv_aload_n hx hb dX7_addGarment_47 rfl (lv_at hl 1 rfl) ?_
    refine va_get (D := fw_D E) (ci := 6) (v := .ref (fw_ad E j0 6)) (C := RX7) (T := TX7) (N := 10) hx hb hU inU7 hown hK (fw_at hP (fw_Vs (f := 0) (by decide) hj0)) 0 rfl rfl 5 (by decide) (hU (Cond.fieldLink RX7 28 "LaundryService$State" "washes" "[I") m_62) (fun _ h9 => h9) rfl dX7_addGarment_48 ?_
    refine lv_iload hx hb dX7_addGarment_51 (lv_at hl 0 rfl) ?_
    refine lv_iconst (v := (0 : Int32)) hx hb dX7_addGarment_53 (by decide) ?_
    refine fw_iast (n := 16) hx hb hK hP hE hS (fw_Vs (f := 6) (by decide) hj0) (fun _ => rfl) (fw_in_e g1) dX7_addGarment_54 (fun H locs hP hS => ?_)
    obtain ⟨μ7, eμ7, h⟩ := fw_l_e h
    rw [← eμ7] at hP
    refine lv_aload_n hx hb dX7_addGarment_55 rfl (lv_at hl 1 rfl) ?_
    refine lv_dup hx hb dX7_addGarment_56 rfl ?_
    refine va_get (D := fw_D E) (ci := 6) (v := .int (μ7 j0 0 6)) (C := RX7) (T := TX7) (N := 10) hx hb hU inU7 hown hK (fw_at hP (fw_Vs (f := 0) (by decide) hj0)) 0 rfl rfl 6 (by decide) (hU (Cond.fieldLink RX7 31 "LaundryService$State" "garmentCount" "I") m_65) (fun _ h9 => h9) rfl dX7_addGarment_57 ?_
    refine lv_iconst (v := (1 : Int32)) hx hb dX7_addGarment_60 (by decide) ?_
    refine lv_iadd hx hb dX7_addGarment_61 ?_
    refine fw_put (ci := 6) (v := .int ((μ7 j0 0 6) + (1 : Int32))) (ty := .int) (C := RX7) (T := TX7) (N := 10) hx hb hU inU7 tyX7 tyX7_ok nmX7 hown hK hP hE hS (fw_Vs (f := 0) (by decide) hj0) rfl rfl 6 (by decide) (hU (Cond.fieldLink RX7 31 "LaundryService$State" "garmentCount" "I") m_65) (fun _ h9 => h9) rfl (by decide +kernel) rfl rfl (Nat.le_of_ble_eq_true rfl) 6 ((μ7 j0 0 6) + (1 : Int32)) (by rw [fw_u_c]; rfl) dX7_addGarment_62 (fun H locs hP hS => ?_)
    obtain ⟨μ8, eμ8, h⟩ := fw_l_e h
    rw [← eμ8] at hP
    refine lv_iload hx hb dX7_addGarment_65 (lv_at hl 0 rfl) ?_
    exact W.iret (v := (μ j0 0 6)) hx hb hr (fw_ew (mk := Value.int) h hP hS) hS.2.2 dX7_addGarment_67
  subst ha
  have hl := lv_entry ([.ref (fw_ad E j0 0), .int x1, .int x2, .int x3, .int x4]) (n := 6) (Nat.le_of_ble_eq_true rfl)
  rw [lg_entry_eq]
  generalize (lg_sl ([.ref (fw_ad E j0 0), .int x1, .int x2, .int x3, .int x4]) ++ List.replicate (6 - (lg_sl ([.ref (fw_ad E j0 0), .int x1, .int x2, .int x3, .int x4])).length) Slot.unset).toArray = ls at hl ⊢
  exact EN s.heap [] ls hP va_S.rf hl
set_option maxHeartbeats 4000000 in
set_option maxRecDepth 100000 in
theorem k_X7_putIntoMachine (l : Launch) {E : fw_E} {o : Int64} {d : UInt64} (hE : fw_ok E) {μ μ' : fw_M} {j0 : Nat} (hj0 : j0 < 12) (x1 : Int32) (x2 : Int32) {r : Unit} (h : f_X7_putIntoMachine μ j0 x1 x2 = some (μ', r)) : Met l yX7_putIntoMachine (fw_ws yX7_putIntoMachine cX7_putIntoMachine 3 none) ({ frames := 0, cells := 0, slots := 0, locals := 0 } : Room) (va_Pc [.ref (fw_ad E j0 0), .int x1, .int x2] (fw_Pre E o d μ)) (fw_Q E o d none μ') 0 0 (fw_A E) := by
  refine Met.ofW (cc := cX7_putIntoMachine) (maxL := 3) (ret := none) (by decide) rfl ?_
  intro p e s m args below meth c s₁ B hml hv
  obtain ⟨ha, hK, hP, hSt⟩ := hv
  have hx := B.exec
  have hb := B.bytes
  have hr := B.returns
  have hts := atoms_spec (ws := fw_ws yX7_putIntoMachine cX7_putIntoMachine 3 none) B.pre
  have hU : ∀ w ∈ fw_U, w.before args s = true := fun w hw => hts w (List.mem_cons_of_mem _ hw)
  have hown : s.vm.findClass RX7 = some m.cls := findClass_of_methodNamed B.named
  have hlocks := B.notSynchronized
  have EN : ∀ (H : Heap) (locs : List Loc) (ls : Array Slot), fw_P E o d μ H → va_S (fw_A E) s.heap H locs → lv_has ls 3 [(0, .ref (fw_ad E j0 0)), (1, .int x1), (2, .int x2)] → W p l e (headSpec (fw_ws yX7_putIntoMachine cX7_putIntoMachine 3 none) ({ frames := 0, cells := 0, slots := 0, locals := 0 } : Room)).room s m args below meth c H locs 0 0 (MQ below (fw_Q E o d none μ') args s 0 0 (fw_A E)) (F0 m 0 ls []) := by
    intro H locs ls hP hS hl
    unfold f_X7_putIntoMachine at h
    refine lv_aload_n hx hb dX7_putIntoMachine_0 rfl (lv_at hl 0 rfl) ?_
    refine va_get (D := fw_D E) (ci := 6) (v := .ref (fw_ad E j0 5)) (C := RX7) (T := TX7) (N := 10) hx hb hU inU7 hown hK (fw_at hP (fw_Vs (f := 0) (by decide) hj0)) 0 rfl rfl 4 (by decide) (hU (Cond.fieldLink RX7 25 "LaundryService$State" "places" "[I") m_59) (fun _ h9 => h9) rfl dX7_putIntoMachine_1 ?_
    refine lv_iload_n hx hb dX7_putIntoMachine_4 rfl (lv_at hl 1 rfl) ?_
    refine lv_iconst (v := (1 : Int32)) hx hb dX7_putIntoMachine_5 (by decide) ?_
    refine lv_iload_n hx hb dX7_putIntoMachine_6 rfl (lv_at hl 2 rfl) ?_
    refine lv_iadd hx hb dX7_putIntoMachine_7 ?_
    obtain ⟨g1, h⟩ := fw_g_e h
    refine fw_iast (n := 16) hx hb hK hP hE hS (fw_Vs (f := 5) (by decide) hj0) (fun _ => rfl) (fw_in_e g1) dX7_putIntoMachine_8 (fun H locs hP hS => ?_)
    obtain ⟨μ2, eμ2, h⟩ := fw_l_e h
    rw [← eμ2] at hP
    exact W.vret hx hb hr (fw_ev h hP hS) hS.2.2 dX7_putIntoMachine_9
  subst ha
  have hl := lv_entry ([.ref (fw_ad E j0 0), .int x1, .int x2]) (n := 3) (Nat.le_of_ble_eq_true rfl)
  rw [lg_entry_eq]
  generalize (lg_sl ([.ref (fw_ad E j0 0), .int x1, .int x2]) ++ List.replicate (3 - (lg_sl ([.ref (fw_ad E j0 0), .int x1, .int x2])).length) Slot.unset).toArray = ls at hl ⊢
  exact EN s.heap [] ls hP va_S.rf hl
set_option maxHeartbeats 4000000 in
set_option maxRecDepth 100000 in
theorem k_X7_putBackIntoBag (l : Launch) {E : fw_E} {o : Int64} {d : UInt64} (hE : fw_ok E) {μ μ' : fw_M} {j0 : Nat} (hj0 : j0 < 12) (x1 : Int32) {r : Int32} (h : f_X7_putBackIntoBag μ j0 x1 = some (μ', r)) : Met l yX7_putBackIntoBag (fw_ws yX7_putBackIntoBag cX7_putBackIntoBag 3 (some .int)) ({ frames := 0, cells := 0, slots := 0, locals := 0 } : Room) (va_Pc [.ref (fw_ad E j0 0), .int x1] (fw_Pre E o d μ)) (fw_Q E o d (some (.int r)) μ') 0 0 (fw_A E) := by
  refine Met.ofW (cc := cX7_putBackIntoBag) (maxL := 3) (ret := (some .int)) (by decide) rfl ?_
  intro p e s m args below meth c s₁ B hml hv
  obtain ⟨ha, hK, hP, hSt⟩ := hv
  have hx := B.exec
  have hb := B.bytes
  have hr := B.returns
  have hts := atoms_spec (ws := fw_ws yX7_putBackIntoBag cX7_putBackIntoBag 3 (some .int)) B.pre
  have hU : ∀ w ∈ fw_U, w.before args s = true := fun w hw => hts w (List.mem_cons_of_mem _ hw)
  have hown : s.vm.findClass RX7 = some m.cls := findClass_of_methodNamed B.named
  have hlocks := B.notSynchronized
  have EN : ∀ (H : Heap) (locs : List Loc) (ls : Array Slot), fw_P E o d μ H → va_S (fw_A E) s.heap H locs → lv_has ls 3 [(0, .ref (fw_ad E j0 0)), (1, .int x1)] → W p l e (headSpec (fw_ws yX7_putBackIntoBag cX7_putBackIntoBag 3 (some .int)) ({ frames := 0, cells := 0, slots := 0, locals := 0 } : Room)).room s m args below meth c H locs 0 0 (MQ below (fw_Q E o d (some (.int r)) μ') args s 0 0 (fw_A E)) (F0 m 0 ls []) := by
    intro H locs ls hP hS hl
    unfold f_X7_putBackIntoBag at h
    refine lv_aload_n hx hb dX7_putBackIntoBag_0 rfl (lv_at hl 0 rfl) ?_
    refine va_get (D := fw_D E) (ci := 6) (v := .ref (fw_ad E j0 5)) (C := RX7) (T := TX7) (N := 10) hx hb hU inU7 hown hK (fw_at hP (fw_Vs (f := 0) (by decide) hj0)) 0 rfl rfl 4 (by decide) (hU (Cond.fieldLink RX7 25 "LaundryService$State" "places" "[I") m_59) (fun _ h9 => h9) rfl dX7_putBackIntoBag_1 ?_
    refine lv_iload_n hx hb dX7_putBackIntoBag_4 rfl (lv_at hl 1 rfl) ?_
    obtain ⟨g1, h⟩ := fw_g_e h
    refine va_iald (D := fw_D E) hx hb hK (fw_at hP (fw_Vs (f := 5) (by decide) hj0)) 0 0 rfl rfl (fw_in_e g1) dX7_putBackIntoBag_5 ?_
    refine lv_iconst (v := (1 : Int32)) hx hb dX7_putBackIntoBag_6 (by decide) ?_
    refine lv_isub hx hb dX7_putBackIntoBag_7 ?_
    refine lv_istore_n (lv' := [(2, .int ((μ j0 5 x1.toNatClampNeg) - (1 : Int32))), (0, .ref (fw_ad E j0 0)), (1, .int x1)]) hx hb dX7_putBackIntoBag_8 rfl hl (by decide) rfl (fun ls hl => ?_)
    refine lv_aload_n hx hb dX7_putBackIntoBag_9 rfl (lv_at hl 1 rfl) ?_
    refine va_get (D := fw_D E) (ci := 6) (v := .ref (fw_ad E j0 5)) (C := RX7) (T := TX7) (N := 10) hx hb hU inU7 hown hK (fw_at hP (fw_Vs (f := 0) (by decide) hj0)) 0 rfl rfl 4 (by decide) (hU (Cond.fieldLink RX7 25 "LaundryService$State" "places" "[I") m_59) (fun _ h9 => h9) rfl dX7_putBackIntoBag_10 ?_
    refine lv_iload_n hx hb dX7_putBackIntoBag_13 rfl (lv_at hl 2 rfl) ?_
    refine lv_iconst (v := (0 : Int32)) hx hb dX7_putBackIntoBag_14 (by decide) ?_
    refine fw_iast (n := 16) hx hb hK hP hE hS (fw_Vs (f := 5) (by decide) hj0) (fun _ => rfl) (fw_in_e g1) dX7_putBackIntoBag_15 (fun H locs hP hS => ?_)
    obtain ⟨μ2, eμ2, h⟩ := fw_l_e h
    rw [← eμ2] at hP
    refine lv_iload_n hx hb dX7_putBackIntoBag_16 rfl (lv_at hl 0 rfl) ?_
    exact W.iret (v := ((μ j0 5 x1.toNatClampNeg) - (1 : Int32))) hx hb hr (fw_ew (mk := Value.int) h hP hS) hS.2.2 dX7_putBackIntoBag_17
  subst ha
  have hl := lv_entry ([.ref (fw_ad E j0 0), .int x1]) (n := 3) (Nat.le_of_ble_eq_true rfl)
  rw [lg_entry_eq]
  generalize (lg_sl ([.ref (fw_ad E j0 0), .int x1]) ++ List.replicate (3 - (lg_sl ([.ref (fw_ad E j0 0), .int x1])).length) Slot.unset).toArray = ls at hl ⊢
  exact EN s.heap [] ls hP va_S.rf hl
set_option maxHeartbeats 4000000 in
set_option maxRecDepth 100000 in
theorem k_X7_degrees (l : Launch) {E : fw_E} {o : Int64} {d : UInt64} (hE : fw_ok E) {μ : fw_M} {j0 : Nat} (hj0 : j0 < 12) (x1 : Int32) {r : UInt32} (h : f_X7_degrees μ j0 x1 = some r) : Met l yX7_degrees (fw_ws yX7_degrees cX7_degrees 2 (some .float)) ({ frames := 0, cells := 0, slots := 0, locals := 0 } : Room) (va_Pc [.ref (fw_ad E j0 0), .int x1] (fw_Pre E o d μ)) (fw_Q E o d (some (.float r)) μ) 0 0 (fw_A E) := by
  refine Met.ofW (cc := cX7_degrees) (maxL := 2) (ret := (some .float)) (by decide) rfl ?_
  intro p e s m args below meth c s₁ B hml hv
  obtain ⟨ha, hK, hP, hSt⟩ := hv
  have hx := B.exec
  have hb := B.bytes
  have hr := B.returns
  have hts := atoms_spec (ws := fw_ws yX7_degrees cX7_degrees 2 (some .float)) B.pre
  have hU : ∀ w ∈ fw_U, w.before args s = true := fun w hw => hts w (List.mem_cons_of_mem _ hw)
  have hown : s.vm.findClass RX7 = some m.cls := findClass_of_methodNamed B.named
  have hlocks := B.notSynchronized
  have EN : ∀ (H : Heap) (locs : List Loc) (ls : Array Slot), fw_P E o d μ H → va_S (fw_A E) s.heap H locs → lv_has ls 2 [(0, .ref (fw_ad E j0 0)), (1, .int x1)] → W p l e (headSpec (fw_ws yX7_degrees cX7_degrees 2 (some .float)) ({ frames := 0, cells := 0, slots := 0, locals := 0 } : Room)).room s m args below meth c H locs 0 0 (MQ below (fw_Q E o d (some (.float r)) μ) args s 0 0 (fw_A E)) (F0 m 0 ls []) := by
    intro H locs ls hP hS hl
    unfold f_X7_degrees at h
    refine lv_aload_n hx hb dX7_degrees_0 rfl (lv_at hl 0 rfl) ?_
    refine va_get (D := fw_D E) (ci := 6) (v := .ref (fw_ad E j0 7)) (C := RX7) (T := TX7) (N := 10) hx hb hU inU7 hown hK (fw_at hP (fw_Vs (f := 0) (by decide) hj0)) 0 rfl rfl 7 (by decide) (hU (Cond.fieldLink RX7 35 "LaundryService$State" "halves" "[I") m_69) (fun _ h9 => h9) rfl dX7_degrees_1 ?_
    refine lv_iload_n hx hb dX7_degrees_4 rfl (lv_at hl 1 rfl) ?_
    obtain ⟨g1, h⟩ := fw_g_e h
    refine va_iald (D := fw_D E) hx hb hK (fw_at hP (fw_Vs (f := 7) (by decide) hj0)) 0 0 rfl rfl (fw_in_e g1) dX7_degrees_5 ?_
    refine lv_i2f hx hb dX7_degrees_6 ?_
    refine lv_fconst2 hx hb dX7_degrees_7 ?_
    obtain ⟨g2, h⟩ := fw_g_e h
    refine lv_fdiv hx hb dX7_degrees_8 (fw_f32_e g2) ?_
    exact W.fret (v := (FP.fdiv (FP.i2f (μ j0 7 x1.toNatClampNeg)) FP.fconst2)) hx hb hr (fw_er (mk := Value.float) h hP hS) hS.2.2 dX7_degrees_9
  subst ha
  have hl := lv_entry ([.ref (fw_ad E j0 0), .int x1]) (n := 2) (Nat.le_of_ble_eq_true rfl)
  rw [lg_entry_eq]
  generalize (lg_sl ([.ref (fw_ad E j0 0), .int x1]) ++ List.replicate (2 - (lg_sl ([.ref (fw_ad E j0 0), .int x1])).length) Slot.unset).toArray = ls at hl ⊢
  exact EN s.heap [] ls hP va_S.rf hl
set_option maxHeartbeats 4000000 in
set_option maxRecDepth 100000 in
theorem k_X7_stainsOn (l : Launch) {E : fw_E} {o : Int64} {d : UInt64} (hE : fw_ok E) {μ : fw_M} {j0 : Nat} (hj0 : j0 < 12) (x1 : Int32) {r : Int32} (h : f_X7_stainsOn μ j0 x1 = some r) : Met l yX7_stainsOn (fw_ws yX7_stainsOn cX7_stainsOn 2 (some .int)) ({ frames := 1, cells := 0, slots := 0, locals := 20 } : Room) (va_Pc [.ref (fw_ad E j0 0), .int x1] (fw_Pre E o d μ)) (fw_Q E o d (some (.int r)) μ) 0 0 (fw_A E) := by
  refine Met.ofW (cc := cX7_stainsOn) (maxL := 2) (ret := (some .int)) (by decide) rfl ?_
  intro p e s m args below meth c s₁ B hml hv
  obtain ⟨ha, hK, hP, hSt⟩ := hv
  have hx := B.exec
  have hb := B.bytes
  have hr := B.returns
  have hts := atoms_spec (ws := fw_ws yX7_stainsOn cX7_stainsOn 2 (some .int)) B.pre
  have hU : ∀ w ∈ fw_U, w.before args s = true := fun w hw => hts w (List.mem_cons_of_mem _ hw)
  have hown : s.vm.findClass RX7 = some m.cls := findClass_of_methodNamed B.named
  have hlocks := B.notSynchronized
  have EN : ∀ (H : Heap) (locs : List Loc) (ls : Array Slot), fw_P E o d μ H → va_S (fw_A E) s.heap H locs → lv_has ls 2 [(0, .ref (fw_ad E j0 0)), (1, .int x1)] → W p l e (headSpec (fw_ws yX7_stainsOn cX7_stainsOn 2 (some .int)) ({ frames := 1, cells := 0, slots := 0, locals := 20 } : Room)).room s m args below meth c H locs 0 0 (MQ below (fw_Q E o d (some (.int r)) μ) args s 0 0 (fw_A E)) (F0 m 0 ls []) := by
    intro H locs ls hP hS hl
    unfold f_X7_stainsOn at h
    refine lv_aload_n hx hb dX7_stainsOn_0 rfl (lv_at hl 0 rfl) ?_
    refine va_get (D := fw_D E) (ci := 6) (v := .ref (fw_ad E j0 4)) (C := RX7) (T := TX7) (N := 10) hx hb hU inU7 hown hK (fw_at hP (fw_Vs (f := 0) (by decide) hj0)) 0 rfl rfl 3 (by decide) (hU (Cond.fieldLink RX7 22 "LaundryService$State" "stains" "[I") m_56) (fun _ h9 => h9) rfl dX7_stainsOn_1 ?_
    refine lv_iload_n hx hb dX7_stainsOn_4 rfl (lv_at hl 1 rfl) ?_
    obtain ⟨g1, h⟩ := fw_g_e h
    refine va_iald (D := fw_D E) hx hb hK (fw_at hP (fw_Vs (f := 4) (by decide) hj0)) 0 0 rfl rfl (fw_in_e g1) dX7_stainsOn_5 ?_
    obtain ⟨r2, hc2, h⟩ := fw_b1_e h
    refine fw_ret (va_runS (As := [.int (μ j0 4 x1.toNatClampNeg)]) (rest := []) ⟨hx, hb, hml, hown, hU⟩ (k_J6_bitCount_0f7a4 l hE (μ j0 4 x1.toNatClampNeg) hc2) (va_cwS 1 hU (fw_gS m_267 m_268 m_22 m_269) rfl rfl rfl (by decide +kernel) ⟨(Nat.le_of_ble_eq_true rfl), (Nat.le_of_ble_eq_true rfl)⟩) ⟨fw_blind, fun U hU9 hW9 => ⟨rfl, fw_pre hK hP hSt hS U hU9 hW9⟩⟩ rfl rfl hl.1 rfl (lv_room (Nat.le_of_ble_eq_true rfl)) dX7_stainsOn_6 ⟨Nat.zero_le _, Nat.zero_le _⟩) hS (fun H locs hP hS => ?_)
    exact W.iret (v := r2) hx hb hr (fw_er (mk := Value.int) h hP hS) hS.2.2 dX7_stainsOn_9
  subst ha
  have hl := lv_entry ([.ref (fw_ad E j0 0), .int x1]) (n := 2) (Nat.le_of_ble_eq_true rfl)
  rw [lg_entry_eq]
  generalize (lg_sl ([.ref (fw_ad E j0 0), .int x1]) ++ List.replicate (2 - (lg_sl ([.ref (fw_ad E j0 0), .int x1])).length) Slot.unset).toArray = ls at hl ⊢
  exact EN s.heap [] ls hP va_S.rf hl
set_option maxHeartbeats 4000000 in
set_option maxRecDepth 100000 in
theorem k_X7_isInBagOf (l : Launch) {E : fw_E} {o : Int64} {d : UInt64} (hE : fw_ok E) {μ : fw_M} {j0 : Nat} (hj0 : j0 < 12) (x1 : Int32) (x2 : Int32) {r : Int32} (h : f_X7_isInBagOf μ j0 x1 x2 = some r) : Met l yX7_isInBagOf (fw_ws yX7_isInBagOf cX7_isInBagOf 3 (some .boolean)) ({ frames := 0, cells := 0, slots := 0, locals := 0 } : Room) (va_Pc [.ref (fw_ad E j0 0), .int x1, .int x2] (fw_Pre E o d μ)) (fw_Q E o d (some (.int r)) μ) 0 0 (fw_A E) := by
  refine Met.ofW (cc := cX7_isInBagOf) (maxL := 3) (ret := (some .boolean)) (by decide) rfl ?_
  intro p e s m args below meth c s₁ B hml hv
  obtain ⟨ha, hK, hP, hSt⟩ := hv
  have hx := B.exec
  have hb := B.bytes
  have hr := B.returns
  have hts := atoms_spec (ws := fw_ws yX7_isInBagOf cX7_isInBagOf 3 (some .boolean)) B.pre
  have hU : ∀ w ∈ fw_U, w.before args s = true := fun w hw => hts w (List.mem_cons_of_mem _ hw)
  have hown : s.vm.findClass RX7 = some m.cls := findClass_of_methodNamed B.named
  have hlocks := B.notSynchronized
  have EN : ∀ (H : Heap) (locs : List Loc) (ls : Array Slot), fw_P E o d μ H → va_S (fw_A E) s.heap H locs → lv_has ls 3 [(0, .ref (fw_ad E j0 0)), (1, .int x1), (2, .int x2)] → W p l e (headSpec (fw_ws yX7_isInBagOf cX7_isInBagOf 3 (some .boolean)) ({ frames := 0, cells := 0, slots := 0, locals := 0 } : Room)).room s m args below meth c H locs 0 0 (MQ below (fw_Q E o d (some (.int r)) μ) args s 0 0 (fw_A E)) (F0 m 0 ls []) := by
    intro H locs ls hP hS hl
    unfold f_X7_isInBagOf at h
    refine lv_aload_n hx hb dX7_isInBagOf_0 rfl (lv_at hl 0 rfl) ?_
    refine va_get (D := fw_D E) (ci := 6) (v := .ref (fw_ad E j0 5)) (C := RX7) (T := TX7) (N := 10) hx hb hU inU7 hown hK (fw_at hP (fw_Vs (f := 0) (by decide) hj0)) 0 rfl rfl 4 (by decide) (hU (Cond.fieldLink RX7 25 "LaundryService$State" "places" "[I") m_59) (fun _ h9 => h9) rfl dX7_isInBagOf_1 ?_
    refine lv_iload_n hx hb dX7_isInBagOf_4 rfl (lv_at hl 1 rfl) ?_
    obtain ⟨g1, h⟩ := fw_g_e h
    refine va_iald (D := fw_D E) hx hb hK (fw_at hP (fw_Vs (f := 5) (by decide) hj0)) 0 0 rfl rfl (fw_in_e g1) dX7_isInBagOf_5 ?_
    refine lv_if_ne (tgt := 23) hx hb dX7_isInBagOf_6 (by decide) (fun c2 => ?_) (fun c2 => ?_)
    · rw [if_neg c2] at h
      refine lv_iconst (v := (0 : Int32)) hx hb dX7_isInBagOf_23 (by decide) ?_
      exact W.zret (v := (0 : Int32)) hx hb hr rfl (fw_er (mk := Value.int) h hP hS) hS.2.2 dX7_isInBagOf_24
    · rw [if_pos c2] at h
      refine lv_aload_n hx hb dX7_isInBagOf_9 rfl (lv_at hl 0 rfl) ?_
      refine va_get (D := fw_D E) (ci := 6) (v := .ref (fw_ad E j0 1)) (C := RX7) (T := TX7) (N := 10) hx hb hU inU7 hown hK (fw_at hP (fw_Vs (f := 0) (by decide) hj0)) 0 rfl rfl 0 (by decide) (hU (Cond.fieldLink RX7 9 "LaundryService$State" "clients" "[I") m_45) (fun _ h9 => h9) rfl dX7_isInBagOf_10 ?_
      refine lv_iload_n hx hb dX7_isInBagOf_13 rfl (lv_at hl 1 rfl) ?_
      refine va_iald (D := fw_D E) hx hb hK (fw_at hP (fw_Vs (f := 1) (by decide) hj0)) 0 0 rfl rfl (fw_in_e g1) dX7_isInBagOf_14 ?_
      refine lv_iload_n hx hb dX7_isInBagOf_15 rfl (lv_at hl 2 rfl) ?_
      refine lv_icmp_ne (tgt := 23) hx hb dX7_isInBagOf_16 (by decide) (fun c3 => ?_) (fun c3 => ?_)
      · rw [if_neg c3] at h
        refine lv_iconst (v := (0 : Int32)) hx hb dX7_isInBagOf_23 (by decide) ?_
        exact W.zret (v := (0 : Int32)) hx hb hr rfl (fw_er (mk := Value.int) h hP hS) hS.2.2 dX7_isInBagOf_24
      · rw [if_pos c3] at h
        refine lv_iconst (v := (1 : Int32)) hx hb dX7_isInBagOf_19 (by decide) ?_
        refine lv_goto (tgt := 24) hx hb dX7_isInBagOf_20 (by decide) ?_
        exact W.zret (v := (1 : Int32)) hx hb hr rfl (fw_er (mk := Value.int) h hP hS) hS.2.2 dX7_isInBagOf_24
  subst ha
  have hl := lv_entry ([.ref (fw_ad E j0 0), .int x1, .int x2]) (n := 3) (Nat.le_of_ble_eq_true rfl)
  rw [lg_entry_eq]
  generalize (lg_sl ([.ref (fw_ad E j0 0), .int x1, .int x2]) ++ List.replicate (3 - (lg_sl ([.ref (fw_ad E j0 0), .int x1, .int x2])).length) Slot.unset).toArray = ls at hl ⊢
  exact EN s.heap [] ls hP va_S.rf hl
set_option maxHeartbeats 4000000 in
set_option maxRecDepth 100000 in
theorem k_X7_isIn (l : Launch) {E : fw_E} {o : Int64} {d : UInt64} (hE : fw_ok E) {μ : fw_M} {j0 : Nat} (hj0 : j0 < 12) (x1 : Int32) (x2 : Int32) {r : Int32} (h : f_X7_isIn μ j0 x1 x2 = some r) : Met l yX7_isIn (fw_ws yX7_isIn cX7_isIn 3 (some .boolean)) ({ frames := 0, cells := 0, slots := 0, locals := 0 } : Room) (va_Pc [.ref (fw_ad E j0 0), .int x1, .int x2] (fw_Pre E o d μ)) (fw_Q E o d (some (.int r)) μ) 0 0 (fw_A E) := by
  refine Met.ofW (cc := cX7_isIn) (maxL := 3) (ret := (some .boolean)) (by decide) rfl ?_
  intro p e s m args below meth c s₁ B hml hv
  obtain ⟨ha, hK, hP, hSt⟩ := hv
  have hx := B.exec
  have hb := B.bytes
  have hr := B.returns
  have hts := atoms_spec (ws := fw_ws yX7_isIn cX7_isIn 3 (some .boolean)) B.pre
  have hU : ∀ w ∈ fw_U, w.before args s = true := fun w hw => hts w (List.mem_cons_of_mem _ hw)
  have hown : s.vm.findClass RX7 = some m.cls := findClass_of_methodNamed B.named
  have hlocks := B.notSynchronized
  have EN : ∀ (H : Heap) (locs : List Loc) (ls : Array Slot), fw_P E o d μ H → va_S (fw_A E) s.heap H locs → lv_has ls 3 [(0, .ref (fw_ad E j0 0)), (1, .int x1), (2, .int x2)] → W p l e (headSpec (fw_ws yX7_isIn cX7_isIn 3 (some .boolean)) ({ frames := 0, cells := 0, slots := 0, locals := 0 } : Room)).room s m args below meth c H locs 0 0 (MQ below (fw_Q E o d (some (.int r)) μ) args s 0 0 (fw_A E)) (F0 m 0 ls []) := by
    intro H locs ls hP hS hl
    unfold f_X7_isIn at h
    refine lv_aload_n hx hb dX7_isIn_0 rfl (lv_at hl 0 rfl) ?_
    refine va_get (D := fw_D E) (ci := 6) (v := .ref (fw_ad E j0 5)) (C := RX7) (T := TX7) (N := 10) hx hb hU inU7 hown hK (fw_at hP (fw_Vs (f := 0) (by decide) hj0)) 0 rfl rfl 4 (by decide) (hU (Cond.fieldLink RX7 25 "LaundryService$State" "places" "[I") m_59) (fun _ h9 => h9) rfl dX7_isIn_1 ?_
    refine lv_iload_n hx hb dX7_isIn_4 rfl (lv_at hl 1 rfl) ?_
    obtain ⟨g1, h⟩ := fw_g_e h
    refine va_iald (D := fw_D E) hx hb hK (fw_at hP (fw_Vs (f := 5) (by decide) hj0)) 0 0 rfl rfl (fw_in_e g1) dX7_isIn_5 ?_
    refine lv_iconst (v := (1 : Int32)) hx hb dX7_isIn_6 (by decide) ?_
    refine lv_iload_n hx hb dX7_isIn_7 rfl (lv_at hl 2 rfl) ?_
    refine lv_iadd hx hb dX7_isIn_8 ?_
    refine lv_icmp_ne (tgt := 16) hx hb dX7_isIn_9 (by decide) (fun c2 => ?_) (fun c2 => ?_)
    · rw [if_neg c2] at h
      refine lv_iconst (v := (0 : Int32)) hx hb dX7_isIn_16 (by decide) ?_
      exact W.zret (v := (0 : Int32)) hx hb hr rfl (fw_er (mk := Value.int) h hP hS) hS.2.2 dX7_isIn_17
    · rw [if_pos c2] at h
      refine lv_iconst (v := (1 : Int32)) hx hb dX7_isIn_12 (by decide) ?_
      refine lv_goto (tgt := 17) hx hb dX7_isIn_13 (by decide) ?_
      exact W.zret (v := (1 : Int32)) hx hb hr rfl (fw_er (mk := Value.int) h hP hS) hS.2.2 dX7_isIn_17
  subst ha
  have hl := lv_entry ([.ref (fw_ad E j0 0), .int x1, .int x2]) (n := 3) (Nat.le_of_ble_eq_true rfl)
  rw [lg_entry_eq]
  generalize (lg_sl ([.ref (fw_ad E j0 0), .int x1, .int x2]) ++ List.replicate (3 - (lg_sl ([.ref (fw_ad E j0 0), .int x1, .int x2])).length) Slot.unset).toArray = ls at hl ⊢
  exact EN s.heap [] ls hP va_S.rf hl
set_option maxHeartbeats 4000000 in
set_option maxRecDepth 100000 in
theorem k_X7_garmentsInBag (l : Launch) {E : fw_E} {o : Int64} {d : UInt64} (hE : fw_ok E) {μ : fw_M} {j0 : Nat} (hj0 : j0 < 12) (x1 : Int32) {r : Int32} (h : f_X7_garmentsInBag μ j0 x1 = some r) : Met l yX7_garmentsInBag (fw_ws yX7_garmentsInBag cX7_garmentsInBag 4 (some .int)) ({ frames := 1, cells := 0, slots := 0, locals := 22 } : Room) (va_Pc [.ref (fw_ad E j0 0), .int x1] (fw_Pre E o d μ)) (fw_Q E o d (some (.int r)) μ) 0 0 (fw_A E) := by
  refine Met.ofW (cc := cX7_garmentsInBag) (maxL := 4) (ret := (some .int)) (by decide) rfl ?_
  intro p e s m args below meth c s₁ B hml hv
  obtain ⟨ha, hK, hP, hSt⟩ := hv
  have hx := B.exec
  have hb := B.bytes
  have hr := B.returns
  have hts := atoms_spec (ws := fw_ws yX7_garmentsInBag cX7_garmentsInBag 4 (some .int)) B.pre
  have hU : ∀ w ∈ fw_U, w.before args s = true := fun w hw => hts w (List.mem_cons_of_mem _ hw)
  have hown : s.vm.findClass RX7 = some m.cls := findClass_of_methodNamed B.named
  have hlocks := B.notSynchronized
  have L4 : ∀ (n : Nat) (x1 : Int32) (x2 : Int32) (x3 : Int32) (H : Heap) (locs : List Loc) (ls : Array Slot), f_X7_garmentsInBag_L4 μ j0 n x1 x2 x3 = some r → fw_P E o d μ H → va_S (fw_A E) s.heap H locs → lv_has ls 4 [(0, .ref (fw_ad E j0 0)), (1, .int x1), (2, .int x2), (3, .int x3)] → W p l e (headSpec (fw_ws yX7_garmentsInBag cX7_garmentsInBag 4 (some .int)) ({ frames := 1, cells := 0, slots := 0, locals := 22 } : Room)).room s m args below meth c H locs 0 0 (MQ below (fw_Q E o d (some (.int r)) μ) args s 0 0 (fw_A E)) (F0 m 4 ls []) := by
    intro n4
    induction n4 with
    | zero => intro x1 x2 x3 H locs ls h; rw [f_X7_garmentsInBag_L4] at h; cases h
    | succ n4 ih4 =>
      intro x1 x2 x3 H locs ls h hP hS hl
      rw [f_X7_garmentsInBag_L4] at h
      refine lv_iload_n hx hb dX7_garmentsInBag_4 rfl (lv_at hl 3 rfl) ?_
      refine lv_aload_n hx hb dX7_garmentsInBag_5 rfl (lv_at hl 0 rfl) ?_
      refine va_get (D := fw_D E) (ci := 6) (v := .int (μ j0 0 6)) (C := RX7) (T := TX7) (N := 10) hx hb hU inU7 hown hK (fw_at hP (fw_Vs (f := 0) (by decide) hj0)) 0 rfl rfl 6 (by decide) (hU (Cond.fieldLink RX7 31 "LaundryService$State" "garmentCount" "I") m_65) (fun _ h9 => h9) rfl dX7_garmentsInBag_6 ?_
      refine lv_icmp_ge (tgt := 33) hx hb dX7_garmentsInBag_9 (by decide) (fun c1 => ?_) (fun c1 => ?_)
      · rw [if_pos c1] at h
        refine lv_iload_n hx hb dX7_garmentsInBag_33 rfl (lv_at hl 2 rfl) ?_
        exact W.iret (v := x2) hx hb hr (fw_er (mk := Value.int) h hP hS) hS.2.2 dX7_garmentsInBag_34
      · rw [if_neg c1] at h
        refine lv_aload_n hx hb dX7_garmentsInBag_12 rfl (lv_at hl 0 rfl) ?_
        refine lv_iload_n hx hb dX7_garmentsInBag_13 rfl (lv_at hl 3 rfl) ?_
        refine lv_iload_n hx hb dX7_garmentsInBag_14 rfl (lv_at hl 1 rfl) ?_
        obtain ⟨r2, hc2, h⟩ := fw_b1_e h
        refine fw_ret (va_runV (As := [.int x3, .int x1]) (rest := []) ⟨hx, hb, hml, hown, hU⟩ (k_X7_isInBagOf l hE hj0 x3 x1 hc2) (cwV 2 hU (fw_gV m_733 m_314 m_315 m_2 m_316) rfl rfl rfl (by decide +kernel) ⟨(Nat.le_of_ble_eq_true rfl), (Nat.le_of_ble_eq_true rfl)⟩) ⟨fw_blind, fw_recv hK hP (fw_Vs (f := 0) (by decide) hj0) rfl rfl, fun U hU9 hW9 => ⟨rfl, fw_pre hK hP hSt hS U hU9 hW9⟩⟩ rfl rfl hl.1 rfl (lv_room (Nat.le_of_ble_eq_true rfl)) dX7_garmentsInBag_15 ⟨Nat.zero_le _, Nat.zero_le _⟩) hS (fun H locs hP hS => ?_)
        refine lv_if_eq (tgt := 27) hx hb dX7_garmentsInBag_18 (by decide) (fun c3 => ?_) (fun c3 => ?_)
        · rw [if_pos c3] at h
          refine lv_iinc (v := (x3 + (1 : Int32))) (lv' := [(3, .int (x3 + (1 : Int32))), (0, .ref (fw_ad E j0 0)), (1, .int x1), (2, .int x2)]) hx hb dX7_garmentsInBag_27 hl (k := 3) rfl rfl (by decide) rfl (fun ls hl => ?_)
          refine lv_goto (tgt := 4) hx hb dX7_garmentsInBag_30 (by decide) ?_
          exact ih4 x1 x2 (x3 + (1 : Int32)) H locs ls h hP hS (lv_sub hl [1, 2, 3, 0] rfl)
        · rw [if_neg c3] at h
          refine lv_iload_n hx hb dX7_garmentsInBag_21 rfl (lv_at hl 2 rfl) ?_
          refine lv_iconst (v := (1 : Int32)) hx hb dX7_garmentsInBag_22 (by decide) ?_
          refine lv_iload_n hx hb dX7_garmentsInBag_23 rfl (lv_at hl 3 rfl) ?_
          refine lv_ishl hx hb dX7_garmentsInBag_24 ?_
          refine lv_ior hx hb dX7_garmentsInBag_25 ?_
          refine lv_istore_n (lv' := [(2, .int (x2 ||| ((1 : Int32) <<< (x3 &&& (31 : Int32))))), (0, .ref (fw_ad E j0 0)), (1, .int x1), (3, .int x3)]) hx hb dX7_garmentsInBag_26 rfl hl (by decide) rfl (fun ls hl => ?_)
          refine lv_iinc (v := (x3 + (1 : Int32))) (lv' := [(3, .int (x3 + (1 : Int32))), (2, .int (x2 ||| ((1 : Int32) <<< (x3 &&& (31 : Int32))))), (0, .ref (fw_ad E j0 0)), (1, .int x1)]) hx hb dX7_garmentsInBag_27 hl (k := 3) rfl rfl (by decide) rfl (fun ls hl => ?_)
          refine lv_goto (tgt := 4) hx hb dX7_garmentsInBag_30 (by decide) ?_
          exact ih4 x1 (x2 ||| ((1 : Int32) <<< (x3 &&& (31 : Int32)))) (x3 + (1 : Int32)) H locs ls h hP hS (lv_sub hl [2, 3, 1, 0] rfl)
  have EN : ∀ (H : Heap) (locs : List Loc) (ls : Array Slot), fw_P E o d μ H → va_S (fw_A E) s.heap H locs → lv_has ls 4 [(0, .ref (fw_ad E j0 0)), (1, .int x1)] → W p l e (headSpec (fw_ws yX7_garmentsInBag cX7_garmentsInBag 4 (some .int)) ({ frames := 1, cells := 0, slots := 0, locals := 22 } : Room)).room s m args below meth c H locs 0 0 (MQ below (fw_Q E o d (some (.int r)) μ) args s 0 0 (fw_A E)) (F0 m 0 ls []) := by
    intro H locs ls hP hS hl
    unfold f_X7_garmentsInBag at h
    refine lv_iconst (v := (0 : Int32)) hx hb dX7_garmentsInBag_0 (by decide) ?_
    refine lv_istore_n (lv' := [(2, .int (0 : Int32)), (0, .ref (fw_ad E j0 0)), (1, .int x1)]) hx hb dX7_garmentsInBag_1 rfl hl (by decide) rfl (fun ls hl => ?_)
    refine lv_iconst (v := (0 : Int32)) hx hb dX7_garmentsInBag_2 (by decide) ?_
    refine lv_istore_n (lv' := [(3, .int (0 : Int32)), (2, .int (0 : Int32)), (0, .ref (fw_ad E j0 0)), (1, .int x1)]) hx hb dX7_garmentsInBag_3 rfl hl (by decide) rfl (fun ls hl => ?_)
    exact L4 1000 x1 (0 : Int32) (0 : Int32) H locs ls h hP hS (lv_sub hl [2, 3, 1, 0] rfl)
  subst ha
  have hl := lv_entry ([.ref (fw_ad E j0 0), .int x1]) (n := 4) (Nat.le_of_ble_eq_true rfl)
  rw [lg_entry_eq]
  generalize (lg_sl ([.ref (fw_ad E j0 0), .int x1]) ++ List.replicate (4 - (lg_sl ([.ref (fw_ad E j0 0), .int x1])).length) Slot.unset).toArray = ls at hl ⊢
  exact EN s.heap [] ls hP va_S.rf hl
set_option maxHeartbeats 4000000 in
set_option maxRecDepth 100000 in
theorem k_X7_stainsOfAllIn (l : Launch) {E : fw_E} {o : Int64} {d : UInt64} (hE : fw_ok E) {μ : fw_M} {j0 : Nat} (hj0 : j0 < 12) (x1 : Int32) {r : Int32} (h : f_X7_stainsOfAllIn μ j0 x1 = some r) : Met l yX7_stainsOfAllIn (fw_ws yX7_stainsOfAllIn cX7_stainsOfAllIn 4 (some .int)) ({ frames := 1, cells := 0, slots := 0, locals := 22 } : Room) (va_Pc [.ref (fw_ad E j0 0), .int x1] (fw_Pre E o d μ)) (fw_Q E o d (some (.int r)) μ) 0 0 (fw_A E) := by
  refine Met.ofW (cc := cX7_stainsOfAllIn) (maxL := 4) (ret := (some .int)) (by decide) rfl ?_
  intro p e s m args below meth c s₁ B hml hv
  obtain ⟨ha, hK, hP, hSt⟩ := hv
  have hx := B.exec
  have hb := B.bytes
  have hr := B.returns
  have hts := atoms_spec (ws := fw_ws yX7_stainsOfAllIn cX7_stainsOfAllIn 4 (some .int)) B.pre
  have hU : ∀ w ∈ fw_U, w.before args s = true := fun w hw => hts w (List.mem_cons_of_mem _ hw)
  have hown : s.vm.findClass RX7 = some m.cls := findClass_of_methodNamed B.named
  have hlocks := B.notSynchronized
  have L6 : ∀ (n : Nat) (x1 : Int32) (x2 : Int32) (x3 : Int32) (H : Heap) (locs : List Loc) (ls : Array Slot), f_X7_stainsOfAllIn_L6 μ j0 n x1 x2 x3 = some r → fw_P E o d μ H → va_S (fw_A E) s.heap H locs → lv_has ls 4 [(0, .ref (fw_ad E j0 0)), (1, .int x1), (2, .int x2), (3, .int x3)] → W p l e (headSpec (fw_ws yX7_stainsOfAllIn cX7_stainsOfAllIn 4 (some .int)) ({ frames := 1, cells := 0, slots := 0, locals := 22 } : Room)).room s m args below meth c H locs 0 0 (MQ below (fw_Q E o d (some (.int r)) μ) args s 0 0 (fw_A E)) (F0 m 6 ls []) := by
    intro n6
    induction n6 with
    | zero => intro x1 x2 x3 H locs ls h; rw [f_X7_stainsOfAllIn_L6] at h; cases h
    | succ n6 ih6 =>
      intro x1 x2 x3 H locs ls h hP hS hl
      rw [f_X7_stainsOfAllIn_L6] at h
      refine lv_iload_n hx hb dX7_stainsOfAllIn_6 rfl (lv_at hl 3 rfl) ?_
      refine lv_aload_n hx hb dX7_stainsOfAllIn_7 rfl (lv_at hl 0 rfl) ?_
      refine va_get (D := fw_D E) (ci := 6) (v := .int (μ j0 0 6)) (C := RX7) (T := TX7) (N := 10) hx hb hU inU7 hown hK (fw_at hP (fw_Vs (f := 0) (by decide) hj0)) 0 rfl rfl 6 (by decide) (hU (Cond.fieldLink RX7 31 "LaundryService$State" "garmentCount" "I") m_65) (fun _ h9 => h9) rfl dX7_stainsOfAllIn_8 ?_
      refine lv_icmp_ge (tgt := 38) hx hb dX7_stainsOfAllIn_11 (by decide) (fun c1 => ?_) (fun c1 => ?_)
      · rw [if_pos c1] at h
        refine lv_iload_n hx hb dX7_stainsOfAllIn_38 rfl (lv_at hl 2 rfl) ?_
        exact W.iret (v := x2) hx hb hr (fw_er (mk := Value.int) h hP hS) hS.2.2 dX7_stainsOfAllIn_39
      · rw [if_neg c1] at h
        refine lv_aload_n hx hb dX7_stainsOfAllIn_14 rfl (lv_at hl 0 rfl) ?_
        refine lv_iload_n hx hb dX7_stainsOfAllIn_15 rfl (lv_at hl 3 rfl) ?_
        refine lv_iload_n hx hb dX7_stainsOfAllIn_16 rfl (lv_at hl 1 rfl) ?_
        obtain ⟨r2, hc2, h⟩ := fw_b1_e h
        refine fw_ret (va_runV (As := [.int x3, .int x1]) (rest := []) ⟨hx, hb, hml, hown, hU⟩ (k_X7_isIn l hE hj0 x3 x1 hc2) (cwV 2 hU (fw_gV m_255 m_256 m_257 m_2 m_258) rfl rfl rfl (by decide +kernel) ⟨(Nat.le_of_ble_eq_true rfl), (Nat.le_of_ble_eq_true rfl)⟩) ⟨fw_blind, fw_recv hK hP (fw_Vs (f := 0) (by decide) hj0) rfl rfl, fun U hU9 hW9 => ⟨rfl, fw_pre hK hP hSt hS U hU9 hW9⟩⟩ rfl rfl hl.1 rfl (lv_room (Nat.le_of_ble_eq_true rfl)) dX7_stainsOfAllIn_17 ⟨Nat.zero_le _, Nat.zero_le _⟩) hS (fun H locs hP hS => ?_)
        refine lv_if_eq (tgt := 32) hx hb dX7_stainsOfAllIn_20 (by decide) (fun c3 => ?_) (fun c3 => ?_)
        · rw [if_pos c3] at h
          refine lv_iinc (v := (x3 + (1 : Int32))) (lv' := [(3, .int (x3 + (1 : Int32))), (0, .ref (fw_ad E j0 0)), (1, .int x1), (2, .int x2)]) hx hb dX7_stainsOfAllIn_32 hl (k := 3) rfl rfl (by decide) rfl (fun ls hl => ?_)
          refine lv_goto (tgt := 6) hx hb dX7_stainsOfAllIn_35 (by decide) ?_
          exact ih6 x1 x2 (x3 + (1 : Int32)) H locs ls h hP hS (lv_sub hl [1, 2, 3, 0] rfl)
        · rw [if_neg c3] at h
          refine lv_iload_n hx hb dX7_stainsOfAllIn_23 rfl (lv_at hl 2 rfl) ?_
          refine lv_aload_n hx hb dX7_stainsOfAllIn_24 rfl (lv_at hl 0 rfl) ?_
          refine va_get (D := fw_D E) (ci := 6) (v := .ref (fw_ad E j0 4)) (C := RX7) (T := TX7) (N := 10) hx hb hU inU7 hown hK (fw_at hP (fw_Vs (f := 0) (by decide) hj0)) 0 rfl rfl 3 (by decide) (hU (Cond.fieldLink RX7 22 "LaundryService$State" "stains" "[I") m_56) (fun _ h9 => h9) rfl dX7_stainsOfAllIn_25 ?_
          refine lv_iload_n hx hb dX7_stainsOfAllIn_28 rfl (lv_at hl 3 rfl) ?_
          obtain ⟨g4, h⟩ := fw_g_e h
          refine va_iald (D := fw_D E) hx hb hK (fw_at hP (fw_Vs (f := 4) (by decide) hj0)) 0 0 rfl rfl (fw_in_e g4) dX7_stainsOfAllIn_29 ?_
          refine lv_iand hx hb dX7_stainsOfAllIn_30 ?_
          refine lv_istore_n (lv' := [(2, .int (x2 &&& (μ j0 4 x3.toNatClampNeg))), (0, .ref (fw_ad E j0 0)), (1, .int x1), (3, .int x3)]) hx hb dX7_stainsOfAllIn_31 rfl hl (by decide) rfl (fun ls hl => ?_)
          refine lv_iinc (v := (x3 + (1 : Int32))) (lv' := [(3, .int (x3 + (1 : Int32))), (2, .int (x2 &&& (μ j0 4 x3.toNatClampNeg))), (0, .ref (fw_ad E j0 0)), (1, .int x1)]) hx hb dX7_stainsOfAllIn_32 hl (k := 3) rfl rfl (by decide) rfl (fun ls hl => ?_)
          refine lv_goto (tgt := 6) hx hb dX7_stainsOfAllIn_35 (by decide) ?_
          exact ih6 x1 (x2 &&& (μ j0 4 x3.toNatClampNeg)) (x3 + (1 : Int32)) H locs ls h hP hS (lv_sub hl [2, 3, 1, 0] rfl)
  have EN : ∀ (H : Heap) (locs : List Loc) (ls : Array Slot), fw_P E o d μ H → va_S (fw_A E) s.heap H locs → lv_has ls 4 [(0, .ref (fw_ad E j0 0)), (1, .int x1)] → W p l e (headSpec (fw_ws yX7_stainsOfAllIn cX7_stainsOfAllIn 4 (some .int)) ({ frames := 1, cells := 0, slots := 0, locals := 22 } : Room)).room s m args below meth c H locs 0 0 (MQ below (fw_Q E o d (some (.int r)) μ) args s 0 0 (fw_A E)) (F0 m 0 ls []) := by
    intro H locs ls hP hS hl
    unfold f_X7_stainsOfAllIn at h
    refine lv_sipush (v := (255 : Int32)) hx hb dX7_stainsOfAllIn_0 (by decide) ?_
    refine lv_istore_n (lv' := [(2, .int (255 : Int32)), (0, .ref (fw_ad E j0 0)), (1, .int x1)]) hx hb dX7_stainsOfAllIn_3 rfl hl (by decide) rfl (fun ls hl => ?_)
    refine lv_iconst (v := (0 : Int32)) hx hb dX7_stainsOfAllIn_4 (by decide) ?_
    refine lv_istore_n (lv' := [(3, .int (0 : Int32)), (2, .int (255 : Int32)), (0, .ref (fw_ad E j0 0)), (1, .int x1)]) hx hb dX7_stainsOfAllIn_5 rfl hl (by decide) rfl (fun ls hl => ?_)
    exact L6 1000 x1 (255 : Int32) (0 : Int32) H locs ls h hP hS (lv_sub hl [2, 3, 1, 0] rfl)
  subst ha
  have hl := lv_entry ([.ref (fw_ad E j0 0), .int x1]) (n := 4) (Nat.le_of_ble_eq_true rfl)
  rw [lg_entry_eq]
  generalize (lg_sl ([.ref (fw_ad E j0 0), .int x1]) ++ List.replicate (4 - (lg_sl ([.ref (fw_ad E j0 0), .int x1])).length) Slot.unset).toArray = ls at hl ⊢
  exact EN s.heap [] ls hP va_S.rf hl
set_option maxHeartbeats 4000000 in
set_option maxRecDepth 100000 in
theorem k_X7_coloursOfLoad (l : Launch) {E : fw_E} {o : Int64} {d : UInt64} (hE : fw_ok E) {μ : fw_M} {j0 : Nat} (hj0 : j0 < 12) (x1 : Int32) {r : Int32} (h : f_X7_coloursOfLoad μ j0 x1 = some r) : Met l yX7_coloursOfLoad (fw_ws yX7_coloursOfLoad cX7_coloursOfLoad 4 (some .int)) ({ frames := 1, cells := 0, slots := 0, locals := 22 } : Room) (va_Pc [.ref (fw_ad E j0 0), .int x1] (fw_Pre E o d μ)) (fw_Q E o d (some (.int r)) μ) 0 0 (fw_A E) := by
  refine Met.ofW (cc := cX7_coloursOfLoad) (maxL := 4) (ret := (some .int)) (by decide) rfl ?_
  intro p e s m args below meth c s₁ B hml hv
  obtain ⟨ha, hK, hP, hSt⟩ := hv
  have hx := B.exec
  have hb := B.bytes
  have hr := B.returns
  have hts := atoms_spec (ws := fw_ws yX7_coloursOfLoad cX7_coloursOfLoad 4 (some .int)) B.pre
  have hU : ∀ w ∈ fw_U, w.before args s = true := fun w hw => hts w (List.mem_cons_of_mem _ hw)
  have hown : s.vm.findClass RX7 = some m.cls := findClass_of_methodNamed B.named
  have hlocks := B.notSynchronized
  have L4 : ∀ (n : Nat) (x1 : Int32) (x2 : Int32) (x3 : Int32) (H : Heap) (locs : List Loc) (ls : Array Slot), f_X7_coloursOfLoad_L4 μ j0 n x1 x2 x3 = some r → fw_P E o d μ H → va_S (fw_A E) s.heap H locs → lv_has ls 4 [(0, .ref (fw_ad E j0 0)), (1, .int x1), (2, .int x2), (3, .int x3)] → W p l e (headSpec (fw_ws yX7_coloursOfLoad cX7_coloursOfLoad 4 (some .int)) ({ frames := 1, cells := 0, slots := 0, locals := 22 } : Room)).room s m args below meth c H locs 0 0 (MQ below (fw_Q E o d (some (.int r)) μ) args s 0 0 (fw_A E)) (F0 m 4 ls []) := by
    intro n4
    induction n4 with
    | zero => intro x1 x2 x3 H locs ls h; rw [f_X7_coloursOfLoad_L4] at h; cases h
    | succ n4 ih4 =>
      intro x1 x2 x3 H locs ls h hP hS hl
      rw [f_X7_coloursOfLoad_L4] at h
      refine lv_iload_n hx hb dX7_coloursOfLoad_4 rfl (lv_at hl 3 rfl) ?_
      refine lv_aload_n hx hb dX7_coloursOfLoad_5 rfl (lv_at hl 0 rfl) ?_
      refine va_get (D := fw_D E) (ci := 6) (v := .int (μ j0 0 6)) (C := RX7) (T := TX7) (N := 10) hx hb hU inU7 hown hK (fw_at hP (fw_Vs (f := 0) (by decide) hj0)) 0 rfl rfl 6 (by decide) (hU (Cond.fieldLink RX7 31 "LaundryService$State" "garmentCount" "I") m_65) (fun _ h9 => h9) rfl dX7_coloursOfLoad_6 ?_
      refine lv_icmp_ge (tgt := 38) hx hb dX7_coloursOfLoad_9 (by decide) (fun c1 => ?_) (fun c1 => ?_)
      · rw [if_pos c1] at h
        refine lv_iload_n hx hb dX7_coloursOfLoad_38 rfl (lv_at hl 2 rfl) ?_
        exact W.iret (v := x2) hx hb hr (fw_er (mk := Value.int) h hP hS) hS.2.2 dX7_coloursOfLoad_39
      · rw [if_neg c1] at h
        refine lv_aload_n hx hb dX7_coloursOfLoad_12 rfl (lv_at hl 0 rfl) ?_
        refine lv_iload_n hx hb dX7_coloursOfLoad_13 rfl (lv_at hl 3 rfl) ?_
        refine lv_iload_n hx hb dX7_coloursOfLoad_14 rfl (lv_at hl 1 rfl) ?_
        obtain ⟨r2, hc2, h⟩ := fw_b1_e h
        refine fw_ret (va_runV (As := [.int x3, .int x1]) (rest := []) ⟨hx, hb, hml, hown, hU⟩ (k_X7_isIn l hE hj0 x3 x1 hc2) (cwV 2 hU (fw_gV m_255 m_256 m_257 m_2 m_258) rfl rfl rfl (by decide +kernel) ⟨(Nat.le_of_ble_eq_true rfl), (Nat.le_of_ble_eq_true rfl)⟩) ⟨fw_blind, fw_recv hK hP (fw_Vs (f := 0) (by decide) hj0) rfl rfl, fun U hU9 hW9 => ⟨rfl, fw_pre hK hP hSt hS U hU9 hW9⟩⟩ rfl rfl hl.1 rfl (lv_room (Nat.le_of_ble_eq_true rfl)) dX7_coloursOfLoad_15 ⟨Nat.zero_le _, Nat.zero_le _⟩) hS (fun H locs hP hS => ?_)
        refine lv_if_eq (tgt := 32) hx hb dX7_coloursOfLoad_18 (by decide) (fun c3 => ?_) (fun c3 => ?_)
        · rw [if_pos c3] at h
          refine lv_iinc (v := (x3 + (1 : Int32))) (lv' := [(3, .int (x3 + (1 : Int32))), (0, .ref (fw_ad E j0 0)), (1, .int x1), (2, .int x2)]) hx hb dX7_coloursOfLoad_32 hl (k := 3) rfl rfl (by decide) rfl (fun ls hl => ?_)
          refine lv_goto (tgt := 4) hx hb dX7_coloursOfLoad_35 (by decide) ?_
          exact ih4 x1 x2 (x3 + (1 : Int32)) H locs ls h hP hS (lv_sub hl [1, 2, 3, 0] rfl)
        · rw [if_neg c3] at h
          refine lv_iload_n hx hb dX7_coloursOfLoad_21 rfl (lv_at hl 2 rfl) ?_
          refine lv_iconst (v := (1 : Int32)) hx hb dX7_coloursOfLoad_22 (by decide) ?_
          refine lv_aload_n hx hb dX7_coloursOfLoad_23 rfl (lv_at hl 0 rfl) ?_
          refine va_get (D := fw_D E) (ci := 6) (v := .ref (fw_ad E j0 3)) (C := RX7) (T := TX7) (N := 10) hx hb hU inU7 hown hK (fw_at hP (fw_Vs (f := 0) (by decide) hj0)) 0 rfl rfl 2 (by decide) (hU (Cond.fieldLink RX7 19 "LaundryService$State" "colours" "[I") m_52) (fun _ h9 => h9) rfl dX7_coloursOfLoad_24 ?_
          refine lv_iload_n hx hb dX7_coloursOfLoad_27 rfl (lv_at hl 3 rfl) ?_
          obtain ⟨g4, h⟩ := fw_g_e h
          refine va_iald (D := fw_D E) hx hb hK (fw_at hP (fw_Vs (f := 3) (by decide) hj0)) 0 0 rfl rfl (fw_in_e g4) dX7_coloursOfLoad_28 ?_
          refine lv_ishl hx hb dX7_coloursOfLoad_29 ?_
          refine lv_ior hx hb dX7_coloursOfLoad_30 ?_
          refine lv_istore_n (lv' := [(2, .int (x2 ||| ((1 : Int32) <<< ((μ j0 3 x3.toNatClampNeg) &&& (31 : Int32))))), (0, .ref (fw_ad E j0 0)), (1, .int x1), (3, .int x3)]) hx hb dX7_coloursOfLoad_31 rfl hl (by decide) rfl (fun ls hl => ?_)
          refine lv_iinc (v := (x3 + (1 : Int32))) (lv' := [(3, .int (x3 + (1 : Int32))), (2, .int (x2 ||| ((1 : Int32) <<< ((μ j0 3 x3.toNatClampNeg) &&& (31 : Int32))))), (0, .ref (fw_ad E j0 0)), (1, .int x1)]) hx hb dX7_coloursOfLoad_32 hl (k := 3) rfl rfl (by decide) rfl (fun ls hl => ?_)
          refine lv_goto (tgt := 4) hx hb dX7_coloursOfLoad_35 (by decide) ?_
          exact ih4 x1 (x2 ||| ((1 : Int32) <<< ((μ j0 3 x3.toNatClampNeg) &&& (31 : Int32)))) (x3 + (1 : Int32)) H locs ls h hP hS (lv_sub hl [2, 3, 1, 0] rfl)
  have EN : ∀ (H : Heap) (locs : List Loc) (ls : Array Slot), fw_P E o d μ H → va_S (fw_A E) s.heap H locs → lv_has ls 4 [(0, .ref (fw_ad E j0 0)), (1, .int x1)] → W p l e (headSpec (fw_ws yX7_coloursOfLoad cX7_coloursOfLoad 4 (some .int)) ({ frames := 1, cells := 0, slots := 0, locals := 22 } : Room)).room s m args below meth c H locs 0 0 (MQ below (fw_Q E o d (some (.int r)) μ) args s 0 0 (fw_A E)) (F0 m 0 ls []) := by
    intro H locs ls hP hS hl
    unfold f_X7_coloursOfLoad at h
    refine lv_iconst (v := (0 : Int32)) hx hb dX7_coloursOfLoad_0 (by decide) ?_
    refine lv_istore_n (lv' := [(2, .int (0 : Int32)), (0, .ref (fw_ad E j0 0)), (1, .int x1)]) hx hb dX7_coloursOfLoad_1 rfl hl (by decide) rfl (fun ls hl => ?_)
    refine lv_iconst (v := (0 : Int32)) hx hb dX7_coloursOfLoad_2 (by decide) ?_
    refine lv_istore_n (lv' := [(3, .int (0 : Int32)), (2, .int (0 : Int32)), (0, .ref (fw_ad E j0 0)), (1, .int x1)]) hx hb dX7_coloursOfLoad_3 rfl hl (by decide) rfl (fun ls hl => ?_)
    exact L4 1000 x1 (0 : Int32) (0 : Int32) H locs ls h hP hS (lv_sub hl [2, 3, 1, 0] rfl)
  subst ha
  have hl := lv_entry ([.ref (fw_ad E j0 0), .int x1]) (n := 4) (Nat.le_of_ble_eq_true rfl)
  rw [lg_entry_eq]
  generalize (lg_sl ([.ref (fw_ad E j0 0), .int x1]) ++ List.replicate (4 - (lg_sl ([.ref (fw_ad E j0 0), .int x1])).length) Slot.unset).toArray = ls at hl ⊢
  exact EN s.heap [] ls hP va_S.rf hl
set_option maxHeartbeats 4000000 in
set_option maxRecDepth 100000 in
theorem k_X7_greatestColourIn (l : Launch) {E : fw_E} {o : Int64} {d : UInt64} (hE : fw_ok E) {μ : fw_M} {j0 : Nat} (hj0 : j0 < 12) (x1 : Int32) {r : Int32} (h : f_X7_greatestColourIn μ j0 x1 = some r) : Met l yX7_greatestColourIn (fw_ws yX7_greatestColourIn cX7_greatestColourIn 4 (some .int)) ({ frames := 1, cells := 0, slots := 0, locals := 22 } : Room) (va_Pc [.ref (fw_ad E j0 0), .int x1] (fw_Pre E o d μ)) (fw_Q E o d (some (.int r)) μ) 0 0 (fw_A E) := by
  refine Met.ofW (cc := cX7_greatestColourIn) (maxL := 4) (ret := (some .int)) (by decide) rfl ?_
  intro p e s m args below meth c s₁ B hml hv
  obtain ⟨ha, hK, hP, hSt⟩ := hv
  have hx := B.exec
  have hb := B.bytes
  have hr := B.returns
  have hts := atoms_spec (ws := fw_ws yX7_greatestColourIn cX7_greatestColourIn 4 (some .int)) B.pre
  have hU : ∀ w ∈ fw_U, w.before args s = true := fun w hw => hts w (List.mem_cons_of_mem _ hw)
  have hown : s.vm.findClass RX7 = some m.cls := findClass_of_methodNamed B.named
  have hlocks := B.notSynchronized
  have L4 : ∀ (n : Nat) (x1 : Int32) (x2 : Int32) (x3 : Int32) (H : Heap) (locs : List Loc) (ls : Array Slot), f_X7_greatestColourIn_L4 μ j0 n x1 x2 x3 = some r → fw_P E o d μ H → va_S (fw_A E) s.heap H locs → lv_has ls 4 [(0, .ref (fw_ad E j0 0)), (1, .int x1), (2, .int x2), (3, .int x3)] → W p l e (headSpec (fw_ws yX7_greatestColourIn cX7_greatestColourIn 4 (some .int)) ({ frames := 1, cells := 0, slots := 0, locals := 22 } : Room)).room s m args below meth c H locs 0 0 (MQ below (fw_Q E o d (some (.int r)) μ) args s 0 0 (fw_A E)) (F0 m 4 ls []) := by
    intro n4
    induction n4 with
    | zero => intro x1 x2 x3 H locs ls h; rw [f_X7_greatestColourIn_L4] at h; cases h
    | succ n4 ih4 =>
      intro x1 x2 x3 H locs ls h hP hS hl
      rw [f_X7_greatestColourIn_L4] at h
      refine lv_iload_n hx hb dX7_greatestColourIn_4 rfl (lv_at hl 3 rfl) ?_
      refine lv_aload_n hx hb dX7_greatestColourIn_5 rfl (lv_at hl 0 rfl) ?_
      refine va_get (D := fw_D E) (ci := 6) (v := .int (μ j0 0 6)) (C := RX7) (T := TX7) (N := 10) hx hb hU inU7 hown hK (fw_at hP (fw_Vs (f := 0) (by decide) hj0)) 0 rfl rfl 6 (by decide) (hU (Cond.fieldLink RX7 31 "LaundryService$State" "garmentCount" "I") m_65) (fun _ h9 => h9) rfl dX7_greatestColourIn_6 ?_
      refine lv_icmp_ge (tgt := 38) hx hb dX7_greatestColourIn_9 (by decide) (fun c1 => ?_) (fun c1 => ?_)
      · rw [if_pos c1] at h
        refine lv_iload_n hx hb dX7_greatestColourIn_38 rfl (lv_at hl 2 rfl) ?_
        exact W.iret (v := x2) hx hb hr (fw_er (mk := Value.int) h hP hS) hS.2.2 dX7_greatestColourIn_39
      · rw [if_neg c1] at h
        refine lv_aload_n hx hb dX7_greatestColourIn_12 rfl (lv_at hl 0 rfl) ?_
        refine lv_iload_n hx hb dX7_greatestColourIn_13 rfl (lv_at hl 3 rfl) ?_
        refine lv_iload_n hx hb dX7_greatestColourIn_14 rfl (lv_at hl 1 rfl) ?_
        obtain ⟨r2, hc2, h⟩ := fw_b1_e h
        refine fw_ret (va_runV (As := [.int x3, .int x1]) (rest := []) ⟨hx, hb, hml, hown, hU⟩ (k_X7_isIn l hE hj0 x3 x1 hc2) (cwV 2 hU (fw_gV m_255 m_256 m_257 m_2 m_258) rfl rfl rfl (by decide +kernel) ⟨(Nat.le_of_ble_eq_true rfl), (Nat.le_of_ble_eq_true rfl)⟩) ⟨fw_blind, fw_recv hK hP (fw_Vs (f := 0) (by decide) hj0) rfl rfl, fun U hU9 hW9 => ⟨rfl, fw_pre hK hP hSt hS U hU9 hW9⟩⟩ rfl rfl hl.1 rfl (lv_room (Nat.le_of_ble_eq_true rfl)) dX7_greatestColourIn_15 ⟨Nat.zero_le _, Nat.zero_le _⟩) hS (fun H locs hP hS => ?_)
        refine lv_if_eq (tgt := 32) hx hb dX7_greatestColourIn_18 (by decide) (fun c3 => ?_) (fun c3 => ?_)
        · rw [if_pos c3] at h
          refine lv_iinc (v := (x3 + (1 : Int32))) (lv' := [(3, .int (x3 + (1 : Int32))), (0, .ref (fw_ad E j0 0)), (1, .int x1), (2, .int x2)]) hx hb dX7_greatestColourIn_32 hl (k := 3) rfl rfl (by decide) rfl (fun ls hl => ?_)
          refine lv_goto (tgt := 4) hx hb dX7_greatestColourIn_35 (by decide) ?_
          exact ih4 x1 x2 (x3 + (1 : Int32)) H locs ls h hP hS (lv_sub hl [1, 2, 3, 0] rfl)
        · rw [if_neg c3] at h
          refine lv_iload_n hx hb dX7_greatestColourIn_21 rfl (lv_at hl 2 rfl) ?_
          refine lv_aload_n hx hb dX7_greatestColourIn_22 rfl (lv_at hl 0 rfl) ?_
          refine va_get (D := fw_D E) (ci := 6) (v := .ref (fw_ad E j0 3)) (C := RX7) (T := TX7) (N := 10) hx hb hU inU7 hown hK (fw_at hP (fw_Vs (f := 0) (by decide) hj0)) 0 rfl rfl 2 (by decide) (hU (Cond.fieldLink RX7 19 "LaundryService$State" "colours" "[I") m_52) (fun _ h9 => h9) rfl dX7_greatestColourIn_23 ?_
          refine lv_iload_n hx hb dX7_greatestColourIn_26 rfl (lv_at hl 3 rfl) ?_
          obtain ⟨g4, h⟩ := fw_g_e h
          refine va_iald (D := fw_D E) hx hb hK (fw_at hP (fw_Vs (f := 3) (by decide) hj0)) 0 0 rfl rfl (fw_in_e g4) dX7_greatestColourIn_27 ?_
          refine va_mmax hx hb (hml.trans hl.1.symm) hown (hU (Cond.methodLink RX7 92 yJ9_max_7cf53) m_259) (hU (Cond.static yJ9_max_7cf53) m_260) (hU (Cond.initialized RJ9) m_20) (hU (Cond.code yJ9_max_7cf53 cJ9_max_7cf53 2 (some .int)) m_261) (Nat.le_of_ble_eq_true rfl) (Nat.le_of_ble_eq_true rfl) (Nat.zero_le _) (Nat.zero_le _) dX7_greatestColourIn_28 ?_
          refine lv_istore_n (lv' := [(2, .int (if x2 < (μ j0 3 x3.toNatClampNeg) then (μ j0 3 x3.toNatClampNeg) else x2)), (0, .ref (fw_ad E j0 0)), (1, .int x1), (3, .int x3)]) hx hb dX7_greatestColourIn_31 rfl hl (by decide) rfl (fun ls hl => ?_)
          refine lv_iinc (v := (x3 + (1 : Int32))) (lv' := [(3, .int (x3 + (1 : Int32))), (2, .int (if x2 < (μ j0 3 x3.toNatClampNeg) then (μ j0 3 x3.toNatClampNeg) else x2)), (0, .ref (fw_ad E j0 0)), (1, .int x1)]) hx hb dX7_greatestColourIn_32 hl (k := 3) rfl rfl (by decide) rfl (fun ls hl => ?_)
          refine lv_goto (tgt := 4) hx hb dX7_greatestColourIn_35 (by decide) ?_
          exact ih4 x1 (if x2 < (μ j0 3 x3.toNatClampNeg) then (μ j0 3 x3.toNatClampNeg) else x2) (x3 + (1 : Int32)) H locs ls h hP hS (lv_sub hl [2, 3, 1, 0] rfl)
  have EN : ∀ (H : Heap) (locs : List Loc) (ls : Array Slot), fw_P E o d μ H → va_S (fw_A E) s.heap H locs → lv_has ls 4 [(0, .ref (fw_ad E j0 0)), (1, .int x1)] → W p l e (headSpec (fw_ws yX7_greatestColourIn cX7_greatestColourIn 4 (some .int)) ({ frames := 1, cells := 0, slots := 0, locals := 22 } : Room)).room s m args below meth c H locs 0 0 (MQ below (fw_Q E o d (some (.int r)) μ) args s 0 0 (fw_A E)) (F0 m 0 ls []) := by
    intro H locs ls hP hS hl
    unfold f_X7_greatestColourIn at h
    refine lv_iconst (v := (0 : Int32)) hx hb dX7_greatestColourIn_0 (by decide) ?_
    refine lv_istore_n (lv' := [(2, .int (0 : Int32)), (0, .ref (fw_ad E j0 0)), (1, .int x1)]) hx hb dX7_greatestColourIn_1 rfl hl (by decide) rfl (fun ls hl => ?_)
    refine lv_iconst (v := (0 : Int32)) hx hb dX7_greatestColourIn_2 (by decide) ?_
    refine lv_istore_n (lv' := [(3, .int (0 : Int32)), (2, .int (0 : Int32)), (0, .ref (fw_ad E j0 0)), (1, .int x1)]) hx hb dX7_greatestColourIn_3 rfl hl (by decide) rfl (fun ls hl => ?_)
    exact L4 1000 x1 (0 : Int32) (0 : Int32) H locs ls h hP hS (lv_sub hl [2, 3, 1, 0] rfl)
  subst ha
  have hl := lv_entry ([.ref (fw_ad E j0 0), .int x1]) (n := 4) (Nat.le_of_ble_eq_true rfl)
  rw [lg_entry_eq]
  generalize (lg_sl ([.ref (fw_ad E j0 0), .int x1]) ++ List.replicate (4 - (lg_sl ([.ref (fw_ad E j0 0), .int x1])).length) Slot.unset).toArray = ls at hl ⊢
  exact EN s.heap [] ls hP va_S.rf hl
set_option maxHeartbeats 4000000 in
set_option maxRecDepth 100000 in
theorem k_X7_costOfRun (l : Launch) {E : fw_E} {o : Int64} {d : UInt64} (hE : fw_ok E) {μ : fw_M} {j0 : Nat} (hj0 : j0 < 12) (x1 : Int32) (x2 : Int32) {r : UInt32} (h : f_X7_costOfRun μ j0 x1 x2 = some r) : Met l yX7_costOfRun (fw_ws yX7_costOfRun cX7_costOfRun 8 (some .float)) ({ frames := 1, cells := 0, slots := 0, locals := 22 } : Room) (va_Pc [.ref (fw_ad E j0 0), .int x1, .int x2] (fw_Pre E o d μ)) (fw_Q E o d (some (.float r)) μ) 0 0 (fw_A E) := by
  refine Met.ofW (cc := cX7_costOfRun) (maxL := 8) (ret := (some .float)) (by decide) rfl ?_
  intro p e s m args below meth c s₁ B hml hv
  obtain ⟨ha, hK, hP, hSt⟩ := hv
  have hx := B.exec
  have hb := B.bytes
  have hr := B.returns
  have hts := atoms_spec (ws := fw_ws yX7_costOfRun cX7_costOfRun 8 (some .float)) B.pre
  have hU : ∀ w ∈ fw_U, w.before args s = true := fun w hw => hts w (List.mem_cons_of_mem _ hw)
  have hown : s.vm.findClass RX7 = some m.cls := findClass_of_methodNamed B.named
  have hlocks := B.notSynchronized
  have L8 : ∀ (n : Nat) (x1 : Int32) (x2 : Int32) (x3 : Int32) (x4 : Int32) (x5 : Int32) (H : Heap) (locs : List Loc) (ls : Array Slot), f_X7_costOfRun_L8 μ j0 n x1 x2 x3 x4 x5 = some r → fw_P E o d μ H → va_S (fw_A E) s.heap H locs → lv_has ls 8 [(0, .ref (fw_ad E j0 0)), (1, .int x1), (2, .int x2), (3, .int x3), (4, .int x4), (5, .int x5)] → W p l e (headSpec (fw_ws yX7_costOfRun cX7_costOfRun 8 (some .float)) ({ frames := 1, cells := 0, slots := 0, locals := 22 } : Room)).room s m args below meth c H locs 0 0 (MQ below (fw_Q E o d (some (.float r)) μ) args s 0 0 (fw_A E)) (F0 m 8 ls []) := by
    intro n8
    induction n8 with
    | zero => intro x1 x2 x3 x4 x5 H locs ls h; rw [f_X7_costOfRun_L8] at h; cases h
    | succ n8 ih8 =>
      have J44 : ∀ (x1 : Int32) (x2 : Int32) (x4 : Int32) (x5 : Int32) (s0 : Int32) (s1 : Int32) (H : Heap) (locs : List Loc) (ls : Array Slot), f_X7_costOfRun_J44 (f_X7_costOfRun_L8 μ j0 n8) μ j0 x1 x2 x4 x5 s0 s1 = some r → fw_P E o d μ H → va_S (fw_A E) s.heap H locs → lv_has ls 8 [(0, .ref (fw_ad E j0 0)), (1, .int x1), (2, .int x2), (4, .int x4), (5, .int x5)] → W p l e (headSpec (fw_ws yX7_costOfRun cX7_costOfRun 8 (some .float)) ({ frames := 1, cells := 0, slots := 0, locals := 22 } : Room)).room s m args below meth c H locs 0 0 (MQ below (fw_Q E o d (some (.float r)) μ) args s 0 0 (fw_A E)) (F0 m 44 ls [.int s1, .int s0]) := by
        intro x1 x2 x4 x5 s0 s1 H locs ls h hP hS hl
        unfold f_X7_costOfRun_J44 at h
        refine lv_iadd hx hb dX7_costOfRun_44 ?_
        refine lv_istore_n (lv' := [(3, .int (s0 + s1)), (0, .ref (fw_ad E j0 0)), (1, .int x1), (2, .int x2), (4, .int x4), (5, .int x5)]) hx hb dX7_costOfRun_45 rfl hl (by decide) rfl (fun ls hl => ?_)
        refine lv_iload hx hb dX7_costOfRun_46 (lv_at hl 4 rfl) ?_
        refine lv_iconst (v := (1 : Int32)) hx hb dX7_costOfRun_48 (by decide) ?_
        refine lv_aload_n hx hb dX7_costOfRun_49 rfl (lv_at hl 1 rfl) ?_
        refine va_get (D := fw_D E) (ci := 6) (v := .ref (fw_ad E j0 1)) (C := RX7) (T := TX7) (N := 10) hx hb hU inU7 hown hK (fw_at hP (fw_Vs (f := 0) (by decide) hj0)) 0 rfl rfl 0 (by decide) (hU (Cond.fieldLink RX7 9 "LaundryService$State" "clients" "[I") m_45) (fun _ h9 => h9) rfl dX7_costOfRun_50 ?_
        refine lv_iload hx hb dX7_costOfRun_53 (lv_at hl 5 rfl) ?_
        obtain ⟨g17, h⟩ := fw_g_e h
        refine va_iald (D := fw_D E) hx hb hK (fw_at hP (fw_Vs (f := 1) (by decide) hj0)) 0 0 rfl rfl (fw_in_e g17) dX7_costOfRun_55 ?_
        refine lv_ishl hx hb dX7_costOfRun_56 ?_
        refine lv_ior hx hb dX7_costOfRun_57 ?_
        refine lv_istore (lv' := [(4, .int (x4 ||| ((1 : Int32) <<< ((μ j0 1 x5.toNatClampNeg) &&& (31 : Int32))))), (3, .int (s0 + s1)), (0, .ref (fw_ad E j0 0)), (1, .int x1), (2, .int x2), (5, .int x5)]) hx hb dX7_costOfRun_58 hl (by decide) rfl (fun ls hl => ?_)
        refine lv_iinc (v := (x5 + (1 : Int32))) (lv' := [(5, .int (x5 + (1 : Int32))), (4, .int (x4 ||| ((1 : Int32) <<< ((μ j0 1 x5.toNatClampNeg) &&& (31 : Int32))))), (3, .int (s0 + s1)), (0, .ref (fw_ad E j0 0)), (1, .int x1), (2, .int x2)]) hx hb dX7_costOfRun_60 hl (k := 5) rfl rfl (by decide) rfl (fun ls hl => ?_)
        refine lv_goto (tgt := 8) hx hb dX7_costOfRun_63 (by decide) ?_
        exact ih8 x1 x2 (s0 + s1) (x4 ||| ((1 : Int32) <<< ((μ j0 1 x5.toNatClampNeg) &&& (31 : Int32)))) (x5 + (1 : Int32)) H locs ls h hP hS (lv_sub hl [3, 4, 5, 2, 1, 0] rfl)
      intro x1 x2 x3 x4 x5 H locs ls h hP hS hl
      rw [f_X7_costOfRun_L8] at h
      refine lv_iload hx hb dX7_costOfRun_8 (lv_at hl 5 rfl) ?_
      refine lv_aload_n hx hb dX7_costOfRun_10 rfl (lv_at hl 0 rfl) ?_
      refine va_get (D := fw_D E) (ci := 6) (v := .int (μ j0 0 6)) (C := RX7) (T := TX7) (N := 10) hx hb hU inU7 hown hK (fw_at hP (fw_Vs (f := 0) (by decide) hj0)) 0 rfl rfl 6 (by decide) (hU (Cond.fieldLink RX7 31 "LaundryService$State" "garmentCount" "I") m_65) (fun _ h9 => h9) rfl dX7_costOfRun_11 ?_
      refine lv_icmp_ge (tgt := 66) hx hb dX7_costOfRun_14 (by decide) (fun c1 => ?_) (fun c1 => ?_)
      · rw [if_pos c1] at h
        refine lv_iload hx hb dX7_costOfRun_66 (lv_at hl 4 rfl) ?_
        obtain ⟨r2, hc2, h⟩ := fw_b1_e h
        refine fw_ret (va_runS (As := [.int x4]) (rest := []) ⟨hx, hb, hml, hown, hU⟩ (k_J6_bitCount_0f7a4 l hE x4 hc2) (va_cwS 1 hU (fw_gS m_267 m_268 m_22 m_269) rfl rfl rfl (by decide +kernel) ⟨(Nat.le_of_ble_eq_true rfl), (Nat.le_of_ble_eq_true rfl)⟩) ⟨fw_blind, fun U hU9 hW9 => ⟨rfl, fw_pre hK hP hSt hS U hU9 hW9⟩⟩ rfl rfl hl.1 rfl (lv_room (Nat.le_of_ble_eq_true rfl)) dX7_costOfRun_68 ⟨Nat.zero_le _, Nat.zero_le _⟩) hS (fun H locs hP hS => ?_)
        refine lv_istore (lv' := [(5, .int r2), (0, .ref (fw_ad E j0 0)), (1, .int x1), (2, .int x2), (3, .int x3), (4, .int x4)]) hx hb dX7_costOfRun_71 hl (by decide) rfl (fun ls hl => ?_)
        refine lv_iload_n hx hb dX7_costOfRun_73 rfl (lv_at hl 4 rfl) ?_
        refine lv_if_eq (tgt := 82) hx hb dX7_costOfRun_74 (by decide) (fun c3 => ?_) (fun c3 => ?_)
        · rw [if_pos c3] at h
          refine lv_fconst0 hx hb dX7_costOfRun_82 ?_
          exact W.fret (v := FP.fconst0) hx hb hr (fw_er (mk := Value.float) h hP hS) hS.2.2 dX7_costOfRun_83
        · rw [if_neg c3] at h
          refine lv_iload hx hb dX7_costOfRun_77 (lv_at hl 0 rfl) ?_
          refine lv_if_ne (tgt := 84) hx hb dX7_costOfRun_79 (by decide) (fun c4 => ?_) (fun c4 => ?_)
          · rw [if_neg c4] at h
            refine lv_ldc2d (v := (4608308318706860032 : UInt64)) hx hb hown (hU (Cond.constantDouble RX7 98 (4608308318706860032 : UInt64)) m_609) dX7_costOfRun_84 ?_
            refine lv_iload_n hx hb dX7_costOfRun_87 rfl (lv_at hl 4 rfl) ?_
            refine lv_i2d hx hb dX7_costOfRun_88 ?_
            obtain ⟨g5, h⟩ := fw_g_e h
            refine lv_dmul hx hb dX7_costOfRun_89 (fw_f64_e g5) ?_
            obtain ⟨g6, h⟩ := fw_g_e h
            refine lv_d2f hx hb dX7_costOfRun_90 (fw_f32_e g6) ?_
            refine lv_fstore (lv' := [(6, .float (FP.d2f (FP.dmul (4608308318706860032 : UInt64) (FP.i2d x3)))), (5, .int r2), (0, .ref (fw_ad E j0 0)), (1, .int x1), (2, .int x2), (3, .int x3), (4, .int x4)]) hx hb dX7_costOfRun_91 hl (by decide) rfl (fun ls hl => ?_)
            refine lv_aload_n hx hb dX7_costOfRun_93 rfl (lv_at hl 2 rfl) ?_
            refine lv_iload_n hx hb dX7_costOfRun_94 rfl (lv_at hl 3 rfl) ?_
            obtain ⟨r7, hc7, h⟩ := fw_b1_e h
            refine fw_ret (va_runV (As := [.int x1]) (rest := []) ⟨hx, hb, hml, hown, hU⟩ (k_X7_degrees l hE hj0 x1 hc7) (cwV 1 hU (fw_gV m_610 m_584 m_585 m_2 m_586) rfl rfl rfl (by decide +kernel) ⟨(Nat.le_of_ble_eq_true rfl), (Nat.le_of_ble_eq_true rfl)⟩) ⟨fw_blind, fw_recv hK hP (fw_Vs (f := 0) (by decide) hj0) rfl rfl, fun U hU9 hW9 => ⟨rfl, fw_pre hK hP hSt hS U hU9 hW9⟩⟩ rfl rfl hl.1 rfl (lv_room (Nat.le_of_ble_eq_true rfl)) dX7_costOfRun_95 ⟨Nat.zero_le _, Nat.zero_le _⟩) hS (fun H locs hP hS => ?_)
            obtain ⟨g8, h⟩ := fw_g_e h
            refine lv_f2d hx hb dX7_costOfRun_98 (fw_f64_e g8) ?_
            refine lv_ldc2d (v := (4593671619917905920 : UInt64)) hx hb hown (hU (Cond.constantDouble RX7 104 (4593671619917905920 : UInt64)) m_611) dX7_costOfRun_99 ?_
            obtain ⟨g9, h⟩ := fw_g_e h
            refine lv_dmul hx hb dX7_costOfRun_102 (fw_f64_e g9) ?_
            refine lv_iload hx hb dX7_costOfRun_103 (lv_at hl 1 rfl) ?_
            refine lv_i2d hx hb dX7_costOfRun_105 ?_
            obtain ⟨g10, h⟩ := fw_g_e h
            refine lv_ddiv hx hb dX7_costOfRun_106 (fw_f64_e g10) ?_
            obtain ⟨g11, h⟩ := fw_g_e h
            refine lv_d2f hx hb dX7_costOfRun_107 (fw_f32_e g11) ?_
            refine lv_fstore (lv' := [(7, .float (FP.d2f (FP.ddiv (FP.dmul (FP.f2d r7) (4593671619917905920 : UInt64)) (FP.i2d r2)))), (6, .float (FP.d2f (FP.dmul (4608308318706860032 : UInt64) (FP.i2d x3)))), (5, .int r2), (0, .ref (fw_ad E j0 0)), (1, .int x1), (2, .int x2), (3, .int x3), (4, .int x4)]) hx hb dX7_costOfRun_108 hl (by decide) rfl (fun ls hl => ?_)
            refine lv_fload hx hb dX7_costOfRun_110 (lv_at hl 1 rfl) ?_
            refine lv_fload hx hb dX7_costOfRun_112 (lv_at hl 0 rfl) ?_
            obtain ⟨g12, h⟩ := fw_g_e h
            refine lv_fadd hx hb dX7_costOfRun_114 (fw_f32_e g12) ?_
            exact W.fret (v := (FP.fadd (FP.d2f (FP.dmul (4608308318706860032 : UInt64) (FP.i2d x3))) (FP.d2f (FP.ddiv (FP.dmul (FP.f2d r7) (4593671619917905920 : UInt64)) (FP.i2d r2))))) hx hb hr (fw_er (mk := Value.float) h hP hS) hS.2.2 dX7_costOfRun_115
          · rw [if_pos c4] at h
            refine lv_fconst0 hx hb dX7_costOfRun_82 ?_
            exact W.fret (v := FP.fconst0) hx hb hr (fw_er (mk := Value.float) h hP hS) hS.2.2 dX7_costOfRun_83
      · rw [if_neg c1] at h
        refine lv_aload_n hx hb dX7_costOfRun_17 rfl (lv_at hl 0 rfl) ?_
        refine lv_iload hx hb dX7_costOfRun_18 (lv_at hl 5 rfl) ?_
        refine lv_iload_n hx hb dX7_costOfRun_20 rfl (lv_at hl 1 rfl) ?_
        obtain ⟨r13, hc13, h⟩ := fw_b1_e h
        refine fw_ret (va_runV (As := [.int x5, .int x1]) (rest := []) ⟨hx, hb, hml, hown, hU⟩ (k_X7_isIn l hE hj0 x5 x1 hc13) (cwV 2 hU (fw_gV m_255 m_256 m_257 m_2 m_258) rfl rfl rfl (by decide +kernel) ⟨(Nat.le_of_ble_eq_true rfl), (Nat.le_of_ble_eq_true rfl)⟩) ⟨fw_blind, fw_recv hK hP (fw_Vs (f := 0) (by decide) hj0) rfl rfl, fun U hU9 hW9 => ⟨rfl, fw_pre hK hP hSt hS U hU9 hW9⟩⟩ rfl rfl hl.1 rfl (lv_room (Nat.le_of_ble_eq_true rfl)) dX7_costOfRun_21 ⟨Nat.zero_le _, Nat.zero_le _⟩) hS (fun H locs hP hS => ?_)
        refine lv_if_eq (tgt := 60) hx hb dX7_costOfRun_24 (by decide) (fun c14 => ?_) (fun c14 => ?_)
        · rw [if_pos c14] at h
          refine lv_iinc (v := (x5 + (1 : Int32))) (lv' := [(5, .int (x5 + (1 : Int32))), (0, .ref (fw_ad E j0 0)), (1, .int x1), (2, .int x2), (3, .int x3), (4, .int x4)]) hx hb dX7_costOfRun_60 hl (k := 5) rfl rfl (by decide) rfl (fun ls hl => ?_)
          refine lv_goto (tgt := 8) hx hb dX7_costOfRun_63 (by decide) ?_
          exact ih8 x1 x2 x3 x4 (x5 + (1 : Int32)) H locs ls h hP hS (lv_sub hl [1, 2, 3, 4, 5, 0] rfl)
        · rw [if_neg c14] at h
          refine lv_iload_n hx hb dX7_costOfRun_27 rfl (lv_at hl 3 rfl) ?_
          refine lv_aload_n hx hb dX7_costOfRun_28 rfl (lv_at hl 0 rfl) ?_
          refine va_get (D := fw_D E) (ci := 6) (v := .ref (fw_ad E j0 1)) (C := RX7) (T := TX7) (N := 10) hx hb hU inU7 hown hK (fw_at hP (fw_Vs (f := 0) (by decide) hj0)) 0 rfl rfl 0 (by decide) (hU (Cond.fieldLink RX7 9 "LaundryService$State" "clients" "[I") m_45) (fun _ h9 => h9) rfl dX7_costOfRun_29 ?_
          refine lv_iload hx hb dX7_costOfRun_32 (lv_at hl 5 rfl) ?_
          obtain ⟨g15, h⟩ := fw_g_e h
          refine va_iald (D := fw_D E) hx hb hK (fw_at hP (fw_Vs (f := 1) (by decide) hj0)) 0 0 rfl rfl (fw_in_e g15) dX7_costOfRun_34 ?_
          refine lv_iload_n hx hb dX7_costOfRun_35 rfl (lv_at hl 2 rfl) ?_
          refine lv_icmp_ne (tgt := 43) hx hb dX7_costOfRun_36 (by decide) (fun c16 => ?_) (fun c16 => ?_)
          · rw [if_neg c16] at h
            refine lv_iconst (v := (0 : Int32)) hx hb dX7_costOfRun_43 (by decide) ?_
            exact J44 x1 x2 x4 x5 x3 (0 : Int32) H locs ls h hP hS (lv_sub hl [0, 1, 2, 4, 5] rfl)
          · rw [if_pos c16] at h
            refine lv_iconst (v := (1 : Int32)) hx hb dX7_costOfRun_39 (by decide) ?_
            refine lv_goto (tgt := 44) hx hb dX7_costOfRun_40 (by decide) ?_
            exact J44 x1 x2 x4 x5 x3 (1 : Int32) H locs ls h hP hS (lv_sub hl [0, 1, 2, 4, 5] rfl)
  have EN : ∀ (H : Heap) (locs : List Loc) (ls : Array Slot), fw_P E o d μ H → va_S (fw_A E) s.heap H locs → lv_has ls 8 [(0, .ref (fw_ad E j0 0)), (1, .int x1), (2, .int x2)] → W p l e (headSpec (fw_ws yX7_costOfRun cX7_costOfRun 8 (some .float)) ({ frames := 1, cells := 0, slots := 0, locals := 22 } : Room)).room s m args below meth c H locs 0 0 (MQ below (fw_Q E o d (some (.float r)) μ) args s 0 0 (fw_A E)) (F0 m 0 ls []) := by
    intro H locs ls hP hS hl
    unfold f_X7_costOfRun at h
    refine lv_iconst (v := (0 : Int32)) hx hb dX7_costOfRun_0 (by decide) ?_
    refine lv_istore_n (lv' := [(3, .int (0 : Int32)), (0, .ref (fw_ad E j0 0)), (1, .int x1), (2, .int x2)]) hx hb dX7_costOfRun_1 rfl hl (by decide) rfl (fun ls hl => ?_)
    refine lv_iconst (v := (0 : Int32)) hx hb dX7_costOfRun_2 (by decide) ?_
    refine lv_istore (lv' := [(4, .int (0 : Int32)), (3, .int (0 : Int32)), (0, .ref (fw_ad E j0 0)), (1, .int x1), (2, .int x2)]) hx hb dX7_costOfRun_3 hl (by decide) rfl (fun ls hl => ?_)
    refine lv_iconst (v := (0 : Int32)) hx hb dX7_costOfRun_5 (by decide) ?_
    refine lv_istore (lv' := [(5, .int (0 : Int32)), (4, .int (0 : Int32)), (3, .int (0 : Int32)), (0, .ref (fw_ad E j0 0)), (1, .int x1), (2, .int x2)]) hx hb dX7_costOfRun_6 hl (by decide) rfl (fun ls hl => ?_)
    exact L8 1000 x1 x2 (0 : Int32) (0 : Int32) (0 : Int32) H locs ls h hP hS (lv_sub hl [3, 4, 5, 2, 1, 0] rfl)
  subst ha
  have hl := lv_entry ([.ref (fw_ad E j0 0), .int x1, .int x2]) (n := 8) (Nat.le_of_ble_eq_true rfl)
  rw [lg_entry_eq]
  generalize (lg_sl ([.ref (fw_ad E j0 0), .int x1, .int x2]) ++ List.replicate (8 - (lg_sl ([.ref (fw_ad E j0 0), .int x1, .int x2])).length) Slot.unset).toArray = ls at hl ⊢
  exact EN s.heap [] ls hP va_S.rf hl
set_option maxHeartbeats 4000000 in
set_option maxRecDepth 100000 in
theorem k_X7_charge (l : Launch) {E : fw_E} {o : Int64} {d : UInt64} (hE : fw_ok E) {μ μ' : fw_M} {j0 : Nat} (hj0 : j0 < 12) (x1 : Int32) {r : Unit} (h : f_X7_charge μ j0 x1 = some (μ', r)) : Met l yX7_charge (fw_ws yX7_charge cX7_charge 3 none) ({ frames := 2, cells := 0, slots := 0, locals := 49 } : Room) (va_Pc [.ref (fw_ad E j0 0), .int x1] (fw_Pre E o d μ)) (fw_Q E o d none μ') 0 0 (fw_A E) := by
  refine Met.ofW (cc := cX7_charge) (maxL := 3) (ret := none) (by decide) rfl ?_
  intro p e s m args below meth c s₁ B hml hv
  obtain ⟨ha, hK, hP, hSt⟩ := hv
  have hx := B.exec
  have hb := B.bytes
  have hr := B.returns
  have hts := atoms_spec (ws := fw_ws yX7_charge cX7_charge 3 none) B.pre
  have hU : ∀ w ∈ fw_U, w.before args s = true := fun w hw => hts w (List.mem_cons_of_mem _ hw)
  have hown : s.vm.findClass RX7 = some m.cls := findClass_of_methodNamed B.named
  have hlocks := B.notSynchronized
  have L2 : ∀ (n : Nat) (μ : fw_M) (x1 : Int32) (x2 : Int32) (H : Heap) (locs : List Loc) (ls : Array Slot), f_X7_charge_L2 j0 n μ x1 x2 = some (μ', r) → fw_P E o d μ H → va_S (fw_A E) s.heap H locs → lv_has ls 3 [(0, .ref (fw_ad E j0 0)), (1, .int x1), (2, .int x2)] → W p l e (headSpec (fw_ws yX7_charge cX7_charge 3 none) ({ frames := 2, cells := 0, slots := 0, locals := 49 } : Room)).room s m args below meth c H locs 0 0 (MQ below (fw_Q E o d none μ') args s 0 0 (fw_A E)) (F0 m 2 ls []) := by
    intro n2
    induction n2 with
    | zero => intro μ x1 x2 H locs ls h; rw [f_X7_charge_L2] at h; cases h
    | succ n2 ih2 =>
      intro μ x1 x2 H locs ls h hP hS hl
      rw [f_X7_charge_L2] at h
      refine lv_iload_n hx hb dX7_charge_2 rfl (lv_at hl 2 rfl) ?_
      refine lv_iconst (v := (4 : Int32)) hx hb dX7_charge_3 (by decide) ?_
      refine lv_icmp_ge (tgt := 32) hx hb dX7_charge_4 (by decide) (fun c1 => ?_) (fun c1 => ?_)
      · rw [if_pos c1] at h
        exact W.vret hx hb hr (fw_ev h hP hS) hS.2.2 dX7_charge_32
      · rw [if_neg c1] at h
        refine lv_aload_n hx hb dX7_charge_7 rfl (lv_at hl 0 rfl) ?_
        refine va_get (D := fw_D E) (ci := 6) (v := .ref (fw_ad E j0 8)) (C := RX7) (T := TX7) (N := 10) hx hb hU inU7 hown hK (fw_at hP (fw_Vs (f := 0) (by decide) hj0)) 0 rfl rfl 8 (by decide) (hU (Cond.fieldLink RX7 38 "LaundryService$State" "paid" "[F") m_72) (fun _ h9 => h9) rfl dX7_charge_8 ?_
        refine lv_iload_n hx hb dX7_charge_11 rfl (lv_at hl 2 rfl) ?_
        refine lv_aload_n hx hb dX7_charge_12 rfl (lv_at hl 0 rfl) ?_
        refine va_get (D := fw_D E) (ci := 6) (v := .ref (fw_ad E j0 8)) (C := RX7) (T := TX7) (N := 10) hx hb hU inU7 hown hK (fw_at hP (fw_Vs (f := 0) (by decide) hj0)) 0 rfl rfl 8 (by decide) (hU (Cond.fieldLink RX7 38 "LaundryService$State" "paid" "[F") m_72) (fun _ h9 => h9) rfl dX7_charge_13 ?_
        refine lv_iload_n hx hb dX7_charge_16 rfl (lv_at hl 2 rfl) ?_
        obtain ⟨g2, h⟩ := fw_g_e h
        refine va_fald (D := fw_D E) hx hb hK (fw_at hP (fw_Vs (f := 8) (by decide) hj0)) 0 3 rfl rfl (fw_in_e g2) dX7_charge_17 ?_
        refine lv_aload_n hx hb dX7_charge_18 rfl (lv_at hl 0 rfl) ?_
        refine lv_iload_n hx hb dX7_charge_19 rfl (lv_at hl 1 rfl) ?_
        refine lv_iload_n hx hb dX7_charge_20 rfl (lv_at hl 2 rfl) ?_
        obtain ⟨r3, hc3, h⟩ := fw_b1_e h
        refine fw_ret (va_runV (As := [.int x1, .int x2]) (rest := [.float (μ j0 8 x2.toNatClampNeg).toUInt32, .int x2, .ref (fw_ad E j0 8)]) ⟨hx, hb, hml, hown, hU⟩ (k_X7_costOfRun l hE hj0 x1 x2 hc3) (cwV 2 hU (fw_gV m_605 m_606 m_607 m_2 m_608) rfl rfl rfl (by decide +kernel) ⟨(Nat.le_of_ble_eq_true rfl), (Nat.le_of_ble_eq_true rfl)⟩) ⟨fw_blind, fw_recv hK hP (fw_Vs (f := 0) (by decide) hj0) rfl rfl, fun U hU9 hW9 => ⟨rfl, fw_pre hK hP hSt hS U hU9 hW9⟩⟩ rfl rfl hl.1 rfl (lv_room (Nat.le_of_ble_eq_true rfl)) dX7_charge_21 ⟨Nat.zero_le _, Nat.zero_le _⟩) hS (fun H locs hP hS => ?_)
        obtain ⟨g4, h⟩ := fw_g_e h
        refine lv_fadd hx hb dX7_charge_24 (fw_f32_e g4) ?_
        refine fw_fast (n := 4) hx hb hK hP hE hS (fw_Vs (f := 8) (by decide) hj0) (fun _ => rfl) (fw_in_e g2) dX7_charge_25 (fun H locs hP hS => ?_)
        obtain ⟨μ5, eμ5, h⟩ := fw_l_e h
        rw [← eμ5] at hP
        refine lv_iinc (v := (x2 + (1 : Int32))) (lv' := [(2, .int (x2 + (1 : Int32))), (0, .ref (fw_ad E j0 0)), (1, .int x1)]) hx hb dX7_charge_26 hl (k := 2) rfl rfl (by decide) rfl (fun ls hl => ?_)
        refine lv_goto (tgt := 2) hx hb dX7_charge_29 (by decide) ?_
        exact ih2 μ5 x1 (x2 + (1 : Int32)) H locs ls h hP hS (lv_sub hl [1, 2, 0] rfl)
  have EN : ∀ (H : Heap) (locs : List Loc) (ls : Array Slot), fw_P E o d μ H → va_S (fw_A E) s.heap H locs → lv_has ls 3 [(0, .ref (fw_ad E j0 0)), (1, .int x1)] → W p l e (headSpec (fw_ws yX7_charge cX7_charge 3 none) ({ frames := 2, cells := 0, slots := 0, locals := 49 } : Room)).room s m args below meth c H locs 0 0 (MQ below (fw_Q E o d none μ') args s 0 0 (fw_A E)) (F0 m 0 ls []) := by
    intro H locs ls hP hS hl
    unfold f_X7_charge at h
    refine lv_iconst (v := (0 : Int32)) hx hb dX7_charge_0 (by decide) ?_
    refine lv_istore_n (lv' := [(2, .int (0 : Int32)), (0, .ref (fw_ad E j0 0)), (1, .int x1)]) hx hb dX7_charge_1 rfl hl (by decide) rfl (fun ls hl => ?_)
    exact L2 1000 μ x1 (0 : Int32) H locs ls h hP hS (lv_sub hl [1, 2, 0] rfl)
  subst ha
  have hl := lv_entry ([.ref (fw_ad E j0 0), .int x1]) (n := 3) (Nat.le_of_ble_eq_true rfl)
  rw [lg_entry_eq]
  generalize (lg_sl ([.ref (fw_ad E j0 0), .int x1]) ++ List.replicate (3 - (lg_sl ([.ref (fw_ad E j0 0), .int x1])).length) Slot.unset).toArray = ls at hl ⊢
  exact EN s.heap [] ls hP va_S.rf hl
set_option maxHeartbeats 4000000 in
set_option maxRecDepth 100000 in
theorem k_X7_pack (l : Launch) {E : fw_E} {o : Int64} {d : UInt64} (hE : fw_ok E) {μ : fw_M} {j0 : Nat} (hj0 : j0 < 12) (x1 : Int32) {r : Int64} (h : f_X7_pack μ j0 x1 = some r) : Met l yX7_pack (fw_ws yX7_pack cX7_pack 4 (some .long)) ({ frames := 0, cells := 0, slots := 0, locals := 0 } : Room) (va_Pc [.ref (fw_ad E j0 0), .int x1] (fw_Pre E o d μ)) (fw_Q E o d (some (.long r)) μ) 0 0 (fw_A E) := by
  refine Met.ofW (cc := cX7_pack) (maxL := 4) (ret := (some .long)) (by decide) rfl ?_
  intro p e s m args below meth c s₁ B hml hv
  obtain ⟨ha, hK, hP, hSt⟩ := hv
  have hx := B.exec
  have hb := B.bytes
  have hr := B.returns
  have hts := atoms_spec (ws := fw_ws yX7_pack cX7_pack 4 (some .long)) B.pre
  have hU : ∀ w ∈ fw_U, w.before args s = true := fun w hw => hts w (List.mem_cons_of_mem _ hw)
  have hown : s.vm.findClass RX7 = some m.cls := findClass_of_methodNamed B.named
  have hlocks := B.notSynchronized
  have J14 : ∀ (x1 : Int32) (s0 : Int32) (H : Heap) (locs : List Loc) (ls : Array Slot), f_X7_pack_J14 μ j0 x1 s0 = some r → fw_P E o d μ H → va_S (fw_A E) s.heap H locs → lv_has ls 4 [(0, .ref (fw_ad E j0 0)), (1, .int x1)] → W p l e (headSpec (fw_ws yX7_pack cX7_pack 4 (some .long)) ({ frames := 0, cells := 0, slots := 0, locals := 0 } : Room)).room s m args below meth c H locs 0 0 (MQ below (fw_Q E o d (some (.long r)) μ) args s 0 0 (fw_A E)) (F0 m 14 ls [.int s0]) := by
    intro x1 s0 H locs ls h hP hS hl
    unfold f_X7_pack_J14 at h
    refine lv_istore_n (lv' := [(2, .int s0), (0, .ref (fw_ad E j0 0)), (1, .int x1)]) hx hb dX7_pack_14 rfl hl (by decide) rfl (fun ls hl => ?_)
    refine lv_aload_n hx hb dX7_pack_15 rfl (lv_at hl 1 rfl) ?_
    refine va_get (D := fw_D E) (ci := 6) (v := .ref (fw_ad E j0 4)) (C := RX7) (T := TX7) (N := 10) hx hb hU inU7 hown hK (fw_at hP (fw_Vs (f := 0) (by decide) hj0)) 0 rfl rfl 3 (by decide) (hU (Cond.fieldLink RX7 22 "LaundryService$State" "stains" "[I") m_56) (fun _ h9 => h9) rfl dX7_pack_16 ?_
    refine lv_iload_n hx hb dX7_pack_19 rfl (lv_at hl 2 rfl) ?_
    obtain ⟨g3, h⟩ := fw_g_e h
    refine va_iald (D := fw_D E) hx hb hK (fw_at hP (fw_Vs (f := 4) (by decide) hj0)) 0 0 rfl rfl (fw_in_e g3) dX7_pack_20 ?_
    refine lv_aload_n hx hb dX7_pack_21 rfl (lv_at hl 1 rfl) ?_
    refine va_get (D := fw_D E) (ci := 6) (v := .ref (fw_ad E j0 3)) (C := RX7) (T := TX7) (N := 10) hx hb hU inU7 hown hK (fw_at hP (fw_Vs (f := 0) (by decide) hj0)) 0 rfl rfl 2 (by decide) (hU (Cond.fieldLink RX7 19 "LaundryService$State" "colours" "[I") m_52) (fun _ h9 => h9) rfl dX7_pack_22 ?_
    refine lv_iload_n hx hb dX7_pack_25 rfl (lv_at hl 2 rfl) ?_
    refine va_iald (D := fw_D E) hx hb hK (fw_at hP (fw_Vs (f := 3) (by decide) hj0)) 0 0 rfl rfl (fw_in_e g3) dX7_pack_26 ?_
    refine lv_bipush (v := (8 : Int32)) hx hb dX7_pack_27 (by decide) ?_
    refine lv_ishl hx hb dX7_pack_29 ?_
    refine lv_ior hx hb dX7_pack_30 ?_
    refine lv_aload_n hx hb dX7_pack_31 rfl (lv_at hl 1 rfl) ?_
    refine va_get (D := fw_D E) (ci := 6) (v := .ref (fw_ad E j0 1)) (C := RX7) (T := TX7) (N := 10) hx hb hU inU7 hown hK (fw_at hP (fw_Vs (f := 0) (by decide) hj0)) 0 rfl rfl 0 (by decide) (hU (Cond.fieldLink RX7 9 "LaundryService$State" "clients" "[I") m_45) (fun _ h9 => h9) rfl dX7_pack_32 ?_
    refine lv_iload_n hx hb dX7_pack_35 rfl (lv_at hl 2 rfl) ?_
    refine va_iald (D := fw_D E) hx hb hK (fw_at hP (fw_Vs (f := 1) (by decide) hj0)) 0 0 rfl rfl (fw_in_e g3) dX7_pack_36 ?_
    refine lv_bipush (v := (11 : Int32)) hx hb dX7_pack_37 (by decide) ?_
    refine lv_ishl hx hb dX7_pack_39 ?_
    refine lv_ior hx hb dX7_pack_40 ?_
    refine lv_iload_n hx hb dX7_pack_41 rfl (lv_at hl 0 rfl) ?_
    refine lv_bipush (v := (13 : Int32)) hx hb dX7_pack_42 (by decide) ?_
    refine lv_ishl hx hb dX7_pack_44 ?_
    refine lv_ior hx hb dX7_pack_45 ?_
    refine lv_aload_n hx hb dX7_pack_46 rfl (lv_at hl 1 rfl) ?_
    refine va_get (D := fw_D E) (ci := 6) (v := .ref (fw_ad E j0 5)) (C := RX7) (T := TX7) (N := 10) hx hb hU inU7 hown hK (fw_at hP (fw_Vs (f := 0) (by decide) hj0)) 0 rfl rfl 4 (by decide) (hU (Cond.fieldLink RX7 25 "LaundryService$State" "places" "[I") m_59) (fun _ h9 => h9) rfl dX7_pack_47 ?_
    refine lv_iload_n hx hb dX7_pack_50 rfl (lv_at hl 2 rfl) ?_
    refine va_iald (D := fw_D E) hx hb hK (fw_at hP (fw_Vs (f := 5) (by decide) hj0)) 0 0 rfl rfl (fw_in_e g3) dX7_pack_51 ?_
    refine lv_bipush (v := (14 : Int32)) hx hb dX7_pack_52 (by decide) ?_
    refine lv_ishl hx hb dX7_pack_54 ?_
    refine lv_ior hx hb dX7_pack_55 ?_
    obtain ⟨y4, ey4, h⟩ := fw_l_e h
    rw [← ey4]
    refine lv_istore_n (lv' := [(3, .int y4), (2, .int s0), (0, .ref (fw_ad E j0 0)), (1, .int x1)]) hx hb dX7_pack_56 rfl hl (by decide) rfl (fun ls hl => ?_)
    refine lv_aload_n hx hb dX7_pack_57 rfl (lv_at hl 2 rfl) ?_
    refine va_get (D := fw_D E) (ci := 6) (v := .ref (fw_ad E j0 6)) (C := RX7) (T := TX7) (N := 10) hx hb hU inU7 hown hK (fw_at hP (fw_Vs (f := 0) (by decide) hj0)) 0 rfl rfl 5 (by decide) (hU (Cond.fieldLink RX7 28 "LaundryService$State" "washes" "[I") m_62) (fun _ h9 => h9) rfl dX7_pack_58 ?_
    refine lv_iload_n hx hb dX7_pack_61 rfl (lv_at hl 3 rfl) ?_
    refine va_iald (D := fw_D E) hx hb hK (fw_at hP (fw_Vs (f := 6) (by decide) hj0)) 0 0 rfl rfl (fw_in_e g3) dX7_pack_62 ?_
    refine lv_i2l (v := (μ j0 6 x1.toNatClampNeg).toInt64) hx hb dX7_pack_63 rfl ?_
    refine lv_bipush (v := (16 : Int32)) hx hb dX7_pack_64 (by decide) ?_
    refine lv_lshl (v := ((μ j0 6 x1.toNatClampNeg).toInt64 <<< ((16 : Int32).toInt64 &&& (63 : Int64)))) hx hb dX7_pack_66 rfl ?_
    refine lv_iload_n hx hb dX7_pack_67 rfl (lv_at hl 0 rfl) ?_
    refine lv_i2l (v := y4.toInt64) hx hb dX7_pack_68 rfl ?_
    refine lv_lor hx hb dX7_pack_69 ?_
    exact W.lret (v := (((μ j0 6 x1.toNatClampNeg).toInt64 <<< ((16 : Int32).toInt64 &&& (63 : Int64))) ||| y4.toInt64)) hx hb hr (fw_er (mk := Value.long) h hP hS) hS.2.2 dX7_pack_70
  have EN : ∀ (H : Heap) (locs : List Loc) (ls : Array Slot), fw_P E o d μ H → va_S (fw_A E) s.heap H locs → lv_has ls 4 [(0, .ref (fw_ad E j0 0)), (1, .int x1)] → W p l e (headSpec (fw_ws yX7_pack cX7_pack 4 (some .long)) ({ frames := 0, cells := 0, slots := 0, locals := 0 } : Room)).room s m args below meth c H locs 0 0 (MQ below (fw_Q E o d (some (.long r)) μ) args s 0 0 (fw_A E)) (F0 m 0 ls []) := by
    intro H locs ls hP hS hl
    unfold f_X7_pack at h
    refine lv_aload_n hx hb dX7_pack_0 rfl (lv_at hl 0 rfl) ?_
    refine va_get (D := fw_D E) (ci := 6) (v := .ref (fw_ad E j0 2)) (C := RX7) (T := TX7) (N := 10) hx hb hU inU7 hown hK (fw_at hP (fw_Vs (f := 0) (by decide) hj0)) 0 rfl rfl 1 (by decide) (hU (Cond.fieldLink RX7 15 "LaundryService$State" "socks" "[Z") m_48) (fun _ h9 => h9) rfl dX7_pack_1 ?_
    refine lv_iload_n hx hb dX7_pack_4 rfl (lv_at hl 1 rfl) ?_
    obtain ⟨g1, h⟩ := fw_g_e h
    refine va_zald (D := fw_D E) hx hb hK (fw_at hP (fw_Vs (f := 2) (by decide) hj0)) 0 1 rfl rfl (fw_in_e g1) dX7_pack_5 ?_
    refine lv_if_eq (tgt := 13) hx hb dX7_pack_6 (by decide) (fun c2 => ?_) (fun c2 => ?_)
    · rw [if_pos c2] at h
      refine lv_iconst (v := (0 : Int32)) hx hb dX7_pack_13 (by decide) ?_
      exact J14 x1 (0 : Int32) H locs ls h hP hS (lv_sub hl [0, 1] rfl)
    · rw [if_neg c2] at h
      refine lv_iconst (v := (1 : Int32)) hx hb dX7_pack_9 (by decide) ?_
      refine lv_goto (tgt := 14) hx hb dX7_pack_10 (by decide) ?_
      exact J14 x1 (1 : Int32) H locs ls h hP hS (lv_sub hl [0, 1] rfl)
  subst ha
  have hl := lv_entry ([.ref (fw_ad E j0 0), .int x1]) (n := 4) (Nat.le_of_ble_eq_true rfl)
  rw [lg_entry_eq]
  generalize (lg_sl ([.ref (fw_ad E j0 0), .int x1]) ++ List.replicate (4 - (lg_sl ([.ref (fw_ad E j0 0), .int x1])).length) Slot.unset).toArray = ls at hl ⊢
  exact EN s.heap [] ls hP va_S.rf hl
