/-! the constructors, laid by wip/whole/lay4.py -/
theorem mc_1116 : (Cond.methodLink RX10 1 Lib.objectInit) ∈ fw_U := fw_inU (i := 1116) (by decide +kernel) (by decide +kernel)
theorem mc_1118 : (Cond.fieldLink RX10 7 "LaundryServiceModel" "s" "[I") ∈ fw_U := fw_inU (i := 1118) (by decide +kernel) (by decide +kernel)
theorem mc_1119 : (Cond.fieldLink RX10 13 "LaundryServiceModel" "frame" "[I") ∈ fw_U := fw_inU (i := 1119) (by decide +kernel) (by decide +kernel)
theorem mc_1120 : (Cond.fieldLink RX10 16 "LaundryServiceModel" "saved" "[I") ∈ fw_U := fw_inU (i := 1120) (by decide +kernel) (by decide +kernel)
theorem mc_1121 : (Cond.fieldLink RX10 19 "LaundryServiceModel" "history" "[I") ∈ fw_U := fw_inU (i := 1121) (by decide +kernel) (by decide +kernel)
theorem mc_1124 : (Cond.fieldLink RX10 22 "LaundryServiceModel" "text" "[I") ∈ fw_U := fw_inU (i := 1124) (by decide +kernel) (by decide +kernel)
theorem mc_1125 : (Cond.fieldLink RX10 25 "LaundryServiceModel" "told" "[I") ∈ fw_U := fw_inU (i := 1125) (by decide +kernel) (by decide +kernel)
theorem mc_1126 : (Cond.fieldLink RX10 28 "LaundryServiceModel" "out" "[I") ∈ fw_U := fw_inU (i := 1126) (by decide +kernel) (by decide +kernel)
theorem mc_1127 : (Cond.fieldLink RX10 31 "LaundryServiceModel" "after" "[I") ∈ fw_U := fw_inU (i := 1127) (by decide +kernel) (by decide +kernel)
theorem mc_1130 : (Cond.fieldLink RX10 34 "LaundryServiceModel" "faultAt" "I") ∈ fw_U := fw_inU (i := 1130) (by decide +kernel) (by decide +kernel)
theorem mc_1131 : (Cond.fieldLink RX10 38 "LaundryServiceModel" "failedAt" "I") ∈ fw_U := fw_inU (i := 1131) (by decide +kernel) (by decide +kernel)
theorem mc_106 : (Cond.methodLink RX3 3 Lib.objectInit) ∈ fw_U := fw_inU (i := 106) (by decide +kernel) (by decide +kernel)
theorem mc_107 : (Cond.classLink RX3 9 RX7) ∈ fw_U := fw_inU (i := 107) (by decide +kernel) (by decide +kernel)
theorem mc_110 : (Cond.fieldLink RX3 11 "LaundryService$History" "rows" "[LLaundryService$State;") ∈ fw_U := fw_inU (i := 110) (by decide +kernel) (by decide +kernel)
theorem mc_111 : (Cond.fieldLink RX3 17 "LaundryService$History" "newest" "I") ∈ fw_U := fw_inU (i := 111) (by decide +kernel) (by decide +kernel)
theorem mc_112 : (Cond.fieldLink RX3 21 "LaundryService$History" "count" "I") ∈ fw_U := fw_inU (i := 112) (by decide +kernel) (by decide +kernel)
theorem mc_40 : (Cond.instantiable RX7 10) ∈ fw_U := fw_inU (i := 40) (by decide +kernel) (by decide +kernel)
theorem mc_2 : (Cond.initialized RX7) ∈ fw_U := fw_inU (i := 2) (by decide +kernel) (by decide +kernel)
theorem mc_43 : (Cond.code yX7_init cX7_init 2 none) ∈ fw_U := fw_inU (i := 43) (by decide +kernel) (by decide +kernel)
theorem mc_42 : (Cond.instanceMethod yX7_init) ∈ fw_U := fw_inU (i := 42) (by decide +kernel) (by decide +kernel)
theorem mc_109 : (Cond.methodLink RX3 24 yX7_init) ∈ fw_U := fw_inU (i := 109) (by decide +kernel) (by decide +kernel)
theorem mc_126 : (Cond.methodLink RX1 3 Lib.objectInit) ∈ fw_U := fw_inU (i := 126) (by decide +kernel) (by decide +kernel)
theorem mc_158 : (Cond.fieldLink RX1 9 "LaundryService$CommandText" "characters" "[C") ∈ fw_U := fw_inU (i := 158) (by decide +kernel) (by decide +kernel)
theorem mc_159 : (Cond.fieldLink RX1 15 "LaundryService$CommandText" "length" "I") ∈ fw_U := fw_inU (i := 159) (by decide +kernel) (by decide +kernel)
theorem mc_161 : (Cond.fieldLink RX1 19 "LaundryService$CommandText" "position" "I") ∈ fw_U := fw_inU (i := 161) (by decide +kernel) (by decide +kernel)
theorem mc_127 : (Cond.classLink RX1 22 RX0) ∈ fw_U := fw_inU (i := 127) (by decide +kernel) (by decide +kernel)
theorem mc_163 : (Cond.fieldLink RX1 24 "LaundryService$CommandText" "commands" "[LLaundryService$Command;") ∈ fw_U := fw_inU (i := 163) (by decide +kernel) (by decide +kernel)
theorem mc_165 : (Cond.fieldLink RX1 28 "LaundryService$CommandText" "commandCount" "I") ∈ fw_U := fw_inU (i := 165) (by decide +kernel) (by decide +kernel)
theorem mc_129 : (Cond.instantiable RX0 4) ∈ fw_U := fw_inU (i := 129) (by decide +kernel) (by decide +kernel)
theorem mc_5 : (Cond.initialized RX0) ∈ fw_U := fw_inU (i := 5) (by decide +kernel) (by decide +kernel)
theorem mc_132 : (Cond.code yX0_init cX0_init 1 none) ∈ fw_U := fw_inU (i := 132) (by decide +kernel) (by decide +kernel)
theorem mc_131 : (Cond.instanceMethod yX0_init) ∈ fw_U := fw_inU (i := 131) (by decide +kernel) (by decide +kernel)
abbrev fb_md (E : fw_E) (a : Nat) : List va_E := [.inr (8, [.int 0, .ref (fw_z E + (a + 1)), .ref (fw_z E + (a + 2)), .ref (fw_z E + (a + 3)), .ref (fw_z E + (a + 4)), .int 0, .int 0, .ref (fw_z E + (a + 5)), .ref (fw_z E + (a + 6)), .ref (fw_z E + (a + 7)), .ref (fw_z E + (a + 8)), .int 0, .int 0, .int (-1 : Int32), .int (-1 : Int32), .int 0, .int 0, .int 0, .int 0, .int 0]), .inl (fw_cy E 0, 104, .inl (upd (upd (fun _ => 0) 2 80) 3 80)), .inl (fw_cy E 0, 104, .inl (fun _ => 0)), .inl (fw_cy E 0, 104, .inl (fun _ => 0)), .inl (fw_cy E 0, 832, .inl (fun _ => 0)), .inl (fw_cy E 0, 60, .inl (fun _ => 0)), .inl (fw_cy E 0, 300, .inl (fun _ => 0)), .inl (fw_cy E 0, 200, .inl (fun _ => 0)), .inl (fw_cy E 0, 16, .inl (fun _ => 0))]
theorem fb_up0 (g : Nat → Nat) : (fun _ : Nat => (none : Option Nat)) = (fun q => if q < 0 then some (g q) else none) := by
  funext q
  rw [if_neg (Nat.not_lt_zero q)]
theorem fb_upS (g : Nat → Nat) (i : Nat) : va_up (fun q => if q < i then some (g q) else none) i (some (g i)) = (fun q => if q < i + 1 then some (g q) else none) := by
  funext q
  simp only [va_up]
  by_cases h : q = i
  · subst h
    rw [if_pos rfl, if_pos (Nat.lt_succ_self q)]
  · rw [if_neg h]
    by_cases h2 : q < i
    · rw [if_pos h2, if_pos (by omega)]
    · rw [if_neg h2, if_neg (by omega)]
def fb_ss (E : fw_E) (a : Nat) : Nat → List va_E
  | 0 => []
  | i + 1 => fb_ss E a i ++ fb_st E (a + (2 + 9 * i))
abbrev fb_hw (E : fw_E) (a i : Nat) : List va_E := .inr (4, [.ref (fw_z E + (a + 1)), .int 0, .int 0]) :: .inl (fw_cy E 5, 9, .inr (.inr (.inr (.inr (fun q => if q < i then some (fw_z E + (a + (2 + 9 * q))) else none))))) :: fb_ss E a i
abbrev fb_hs (E : fw_E) (a : Nat) : List va_E := fb_hw E a 9
theorem fb_hw_len {E : fw_E} {a i : Nat} : (fb_hw E a i).length = 2 + 9 * i := by
  have h : (fb_ss E a i).length = 9 * i := by
    induction i with
    | zero => rfl
    | succ i ih =>
      show (fb_ss E a i ++ fb_st E (a + (2 + 9 * i))).length = _
      rw [List.length_append, ih]
      show 9 * i + 9 = _
      omega
  show (fb_ss E a i).length + 1 + 1 = _
  omega
def fb_cc (E : fw_E) : Nat → List va_E
  | 0 => []
  | i + 1 => fb_cc E i ++ fb_cm E 0
abbrev fb_tw (E : fw_E) (a i : Nat) : List va_E := .inr (3, [.ref (fw_z E + (a + 1)), .int 0, .int 0, .ref (fw_z E + (a + 2)), .int 0]) :: .inl (fw_cy E 2, 60, .inl (fun _ => 0)) :: .inl (fw_cy E 4, 12, .inr (.inr (.inr (.inr (fun q => if q < i then some (fw_z E + (a + (3 + 1 * q))) else none))))) :: fb_cc E i
abbrev fb_ct (E : fw_E) (a : Nat) : List va_E := fb_tw E a 12
theorem fb_tw_len {E : fw_E} {a i : Nat} : (fb_tw E a i).length = 3 + 1 * i := by
  have h : (fb_cc E i).length = i := by
    induction i with
    | zero => rfl
    | succ i ih =>
      show (fb_cc E i ++ fb_cm E 0).length = _
      rw [List.length_append, ih]
      rfl
  show (fb_cc E i).length + 1 + 1 + 1 = _
  omega
set_option maxHeartbeats 300000 in
set_option maxRecDepth 100000 in
theorem kc_X10 (l : Launch) {E : fw_E} {A : List va_E} {a : Nat} (ha : A.length = a) : Met l yX10_init (fw_ws yX10_init cX10_init 1 none) ({ frames := 1, cells := 8, slots := 1720, locals := 21 } : Room) (va_Pc [.ref (fw_z E + a)] (fb_Pre E (A ++ [.inr (8, [.int 0, .null, .null, .null, .null, .int 0, .int 0, .null, .null, .null, .null, .int 0, .int 0, .int 0, .int 0, .int 0, .int 0, .int 0, .int 0, .int 0])]))) (fb_Q E (A ++ fb_md E a)) 8 1720 (fw_A E) := by
  refine Met.ofW (cc := cX10_init) (maxL := 1) (ret := none) (by decide) rfl ?_
  intro p e s m args below meth c s₁ B hml hv
  obtain ⟨ha9, hK, hP, hSt, hO1, hO2⟩ := hv
  have hx := B.exec
  have hb := B.bytes
  have hr := B.returns
  have hts := atoms_spec (ws := fw_ws yX10_init cX10_init 1 none) B.pre
  have hU : ∀ w ∈ fw_U, w.before args s = true := fun w hw => hts w (List.mem_cons_of_mem _ hw)
  have hown : s.vm.findClass RX10 = some m.cls := findClass_of_methodNamed B.named
  have hlocks := B.notSynchronized
  have hin : meth.name = "<init>" := (name_of_methodNamed B.named B.method).1
  have hS : va_S (fw_A E) s.heap s.heap [] := va_S.rf
  subst ha9
  have hl := lv_entry ([.ref (fw_z E + a)]) (n := 1) (Nat.le_of_ble_eq_true rfl)
  rw [lg_entry_eq]
  generalize (lg_sl ([.ref (fw_z E + a)]) ++ List.replicate (1 - (lg_sl ([.ref (fw_z E + a)])).length) Slot.unset).toArray = ls at hl ⊢
  have hl : lv_has ls 1 [(0, .ref (fw_z E + a))] := hl
  refine lv_aload_n hx hb dX10_init_0 rfl (lv_at hl 0 rfl) ?_
  refine W.objInit hx hb hown (hU (Cond.methodLink RX10 1 Lib.objectInit) mc_1116) (hU (Cond.instanceMethod Lib.objectInit) mc_37) (hU (Cond.code Lib.objectInit ⟨#[0xb1]⟩ 1 none) mc_38) rfl (by rw [hml]; exact hl.1) rfl dX10_init_1 (Nat.le_of_ble_eq_true rfl) (Nat.le_of_ble_eq_true rfl) ?_
  refine W.eq (g2 := F0 m 4 ls []) rfl ?_
  refine lv_aload_n hx hb dX10_init_4 rfl (lv_at hl 0 rfl) ?_
  refine lv_bipush (v := (104 : Int32)) hx hb dX10_init_5 (by decide) ?_
  refine fb_newa (atype := .int) (ty := .int) (t0 := 0) (cT := fw_cy E 0) (a0 := (104, .inl (fun _ => 0))) (N' := 104) (nn := 1) hx hb (hU (Cond.arrayClass .int) mc_98) rfl hK ha hP hS rfl rfl (fun h => h) (fun _ => by first | rw [vp_cell_i]; rfl | rw [vp_cell_f]; rfl) (by decide) (by decide) (by decide) (show (1 : Nat) ≤ 8 from by decide) (show (104 : Nat) ≤ 1720 from by decide) dX10_init_7 (fun H hP hS => ?_)
  have hP : fb_P E (A ++ [.inr (8, [.int 0, .null, .null, .null, .null, .int 0, .int 0, .null, .null, .null, .null, .int 0, .int 0, .int 0, .int 0, .int 0, .int 0, .int 0, .int 0, .int 0]), .inl (fw_cy E 0, 104, .inl (fun _ => 0))]) H := hP
  refine fb_putF (ci := 8) (v := .ref (fw_z E + (a + 1))) (ty := .array .int) (C := RX10) (T := TX10) (N := 20) hx hb hU inU10 tyX10 tyX10_ok nmX10 hown hK ha hP hS 0 rfl rfl 1 (by decide) (hU (Cond.fieldLink RX10 7 "LaundryServiceModel" "s" "[I") mc_1118) (fun _ h9 => h9) rfl hin rfl (by decide +kernel) rfl rfl (Nat.le_of_ble_eq_true rfl) dX10_init_9 (fun H locs hP hS => ?_)
  have hP : fb_P E (A ++ [.inr (8, [.int 0, .ref (fw_z E + (a + 1)), .null, .null, .null, .int 0, .int 0, .null, .null, .null, .null, .int 0, .int 0, .int 0, .int 0, .int 0, .int 0, .int 0, .int 0, .int 0]), .inl (fw_cy E 0, 104, .inl (fun _ => 0))]) H := hP
  refine lv_aload_n hx hb dX10_init_12 rfl (lv_at hl 0 rfl) ?_
  refine lv_bipush (v := (104 : Int32)) hx hb dX10_init_13 (by decide) ?_
  refine fb_newa (atype := .int) (ty := .int) (t0 := 0) (cT := fw_cy E 0) (a0 := (104, .inl (fun _ => 0))) (N' := 104) (nn := 2) hx hb (hU (Cond.arrayClass .int) mc_98) rfl hK ha hP hS rfl rfl (fun h => h) (fun _ => by first | rw [vp_cell_i]; rfl | rw [vp_cell_f]; rfl) (by decide) (by decide) (by decide) (show (2 : Nat) ≤ 8 from by decide) (show (208 : Nat) ≤ 1720 from by decide) dX10_init_15 (fun H hP hS => ?_)
  have hP : fb_P E (A ++ [.inr (8, [.int 0, .ref (fw_z E + (a + 1)), .null, .null, .null, .int 0, .int 0, .null, .null, .null, .null, .int 0, .int 0, .int 0, .int 0, .int 0, .int 0, .int 0, .int 0, .int 0]), .inl (fw_cy E 0, 104, .inl (fun _ => 0)), .inl (fw_cy E 0, 104, .inl (fun _ => 0))]) H := hP
  refine fb_putF (ci := 8) (v := .ref (fw_z E + (a + 2))) (ty := .array .int) (C := RX10) (T := TX10) (N := 20) hx hb hU inU10 tyX10 tyX10_ok nmX10 hown hK ha hP hS 0 rfl rfl 2 (by decide) (hU (Cond.fieldLink RX10 13 "LaundryServiceModel" "frame" "[I") mc_1119) (fun _ h9 => h9) rfl hin rfl (by decide +kernel) rfl rfl (Nat.le_of_ble_eq_true rfl) dX10_init_17 (fun H locs hP hS => ?_)
  have hP : fb_P E (A ++ [.inr (8, [.int 0, .ref (fw_z E + (a + 1)), .ref (fw_z E + (a + 2)), .null, .null, .int 0, .int 0, .null, .null, .null, .null, .int 0, .int 0, .int 0, .int 0, .int 0, .int 0, .int 0, .int 0, .int 0]), .inl (fw_cy E 0, 104, .inl (fun _ => 0)), .inl (fw_cy E 0, 104, .inl (fun _ => 0))]) H := hP
  refine lv_aload_n hx hb dX10_init_20 rfl (lv_at hl 0 rfl) ?_
  refine lv_bipush (v := (104 : Int32)) hx hb dX10_init_21 (by decide) ?_
  refine fb_newa (atype := .int) (ty := .int) (t0 := 0) (cT := fw_cy E 0) (a0 := (104, .inl (fun _ => 0))) (N' := 104) (nn := 3) hx hb (hU (Cond.arrayClass .int) mc_98) rfl hK ha hP hS rfl rfl (fun h => h) (fun _ => by first | rw [vp_cell_i]; rfl | rw [vp_cell_f]; rfl) (by decide) (by decide) (by decide) (show (3 : Nat) ≤ 8 from by decide) (show (312 : Nat) ≤ 1720 from by decide) dX10_init_23 (fun H hP hS => ?_)
  have hP : fb_P E (A ++ [.inr (8, [.int 0, .ref (fw_z E + (a + 1)), .ref (fw_z E + (a + 2)), .null, .null, .int 0, .int 0, .null, .null, .null, .null, .int 0, .int 0, .int 0, .int 0, .int 0, .int 0, .int 0, .int 0, .int 0]), .inl (fw_cy E 0, 104, .inl (fun _ => 0)), .inl (fw_cy E 0, 104, .inl (fun _ => 0)), .inl (fw_cy E 0, 104, .inl (fun _ => 0))]) H := hP
  refine fb_putF (ci := 8) (v := .ref (fw_z E + (a + 3))) (ty := .array .int) (C := RX10) (T := TX10) (N := 20) hx hb hU inU10 tyX10 tyX10_ok nmX10 hown hK ha hP hS 0 rfl rfl 3 (by decide) (hU (Cond.fieldLink RX10 16 "LaundryServiceModel" "saved" "[I") mc_1120) (fun _ h9 => h9) rfl hin rfl (by decide +kernel) rfl rfl (Nat.le_of_ble_eq_true rfl) dX10_init_25 (fun H locs hP hS => ?_)
  have hP : fb_P E (A ++ [.inr (8, [.int 0, .ref (fw_z E + (a + 1)), .ref (fw_z E + (a + 2)), .ref (fw_z E + (a + 3)), .null, .int 0, .int 0, .null, .null, .null, .null, .int 0, .int 0, .int 0, .int 0, .int 0, .int 0, .int 0, .int 0, .int 0]), .inl (fw_cy E 0, 104, .inl (fun _ => 0)), .inl (fw_cy E 0, 104, .inl (fun _ => 0)), .inl (fw_cy E 0, 104, .inl (fun _ => 0))]) H := hP
  refine lv_aload_n hx hb dX10_init_28 rfl (lv_at hl 0 rfl) ?_
  refine lv_sipush (v := (832 : Int32)) hx hb dX10_init_29 (by decide) ?_
  refine fb_newa (atype := .int) (ty := .int) (t0 := 0) (cT := fw_cy E 0) (a0 := (832, .inl (fun _ => 0))) (N' := 832) (nn := 4) hx hb (hU (Cond.arrayClass .int) mc_98) rfl hK ha hP hS rfl rfl (fun h => h) (fun _ => by first | rw [vp_cell_i]; rfl | rw [vp_cell_f]; rfl) (by decide) (by decide) (by decide) (show (4 : Nat) ≤ 8 from by decide) (show (1144 : Nat) ≤ 1720 from by decide) dX10_init_32 (fun H hP hS => ?_)
  have hP : fb_P E (A ++ [.inr (8, [.int 0, .ref (fw_z E + (a + 1)), .ref (fw_z E + (a + 2)), .ref (fw_z E + (a + 3)), .null, .int 0, .int 0, .null, .null, .null, .null, .int 0, .int 0, .int 0, .int 0, .int 0, .int 0, .int 0, .int 0, .int 0]), .inl (fw_cy E 0, 104, .inl (fun _ => 0)), .inl (fw_cy E 0, 104, .inl (fun _ => 0)), .inl (fw_cy E 0, 104, .inl (fun _ => 0)), .inl (fw_cy E 0, 832, .inl (fun _ => 0))]) H := hP
  refine fb_putF (ci := 8) (v := .ref (fw_z E + (a + 4))) (ty := .array .int) (C := RX10) (T := TX10) (N := 20) hx hb hU inU10 tyX10 tyX10_ok nmX10 hown hK ha hP hS 0 rfl rfl 4 (by decide) (hU (Cond.fieldLink RX10 19 "LaundryServiceModel" "history" "[I") mc_1121) (fun _ h9 => h9) rfl hin rfl (by decide +kernel) rfl rfl (Nat.le_of_ble_eq_true rfl) dX10_init_34 (fun H locs hP hS => ?_)
  have hP : fb_P E (A ++ [.inr (8, [.int 0, .ref (fw_z E + (a + 1)), .ref (fw_z E + (a + 2)), .ref (fw_z E + (a + 3)), .ref (fw_z E + (a + 4)), .int 0, .int 0, .null, .null, .null, .null, .int 0, .int 0, .int 0, .int 0, .int 0, .int 0, .int 0, .int 0, .int 0]), .inl (fw_cy E 0, 104, .inl (fun _ => 0)), .inl (fw_cy E 0, 104, .inl (fun _ => 0)), .inl (fw_cy E 0, 104, .inl (fun _ => 0)), .inl (fw_cy E 0, 832, .inl (fun _ => 0))]) H := hP
  refine lv_aload_n hx hb dX10_init_37 rfl (lv_at hl 0 rfl) ?_
  refine lv_bipush (v := (60 : Int32)) hx hb dX10_init_38 (by decide) ?_
  refine fb_newa (atype := .int) (ty := .int) (t0 := 0) (cT := fw_cy E 0) (a0 := (60, .inl (fun _ => 0))) (N' := 60) (nn := 5) hx hb (hU (Cond.arrayClass .int) mc_98) rfl hK ha hP hS rfl rfl (fun h => h) (fun _ => by first | rw [vp_cell_i]; rfl | rw [vp_cell_f]; rfl) (by decide) (by decide) (by decide) (show (5 : Nat) ≤ 8 from by decide) (show (1204 : Nat) ≤ 1720 from by decide) dX10_init_40 (fun H hP hS => ?_)
  have hP : fb_P E (A ++ [.inr (8, [.int 0, .ref (fw_z E + (a + 1)), .ref (fw_z E + (a + 2)), .ref (fw_z E + (a + 3)), .ref (fw_z E + (a + 4)), .int 0, .int 0, .null, .null, .null, .null, .int 0, .int 0, .int 0, .int 0, .int 0, .int 0, .int 0, .int 0, .int 0]), .inl (fw_cy E 0, 104, .inl (fun _ => 0)), .inl (fw_cy E 0, 104, .inl (fun _ => 0)), .inl (fw_cy E 0, 104, .inl (fun _ => 0)), .inl (fw_cy E 0, 832, .inl (fun _ => 0)), .inl (fw_cy E 0, 60, .inl (fun _ => 0))]) H := hP
  refine fb_putF (ci := 8) (v := .ref (fw_z E + (a + 5))) (ty := .array .int) (C := RX10) (T := TX10) (N := 20) hx hb hU inU10 tyX10 tyX10_ok nmX10 hown hK ha hP hS 0 rfl rfl 7 (by decide) (hU (Cond.fieldLink RX10 22 "LaundryServiceModel" "text" "[I") mc_1124) (fun _ h9 => h9) rfl hin rfl (by decide +kernel) rfl rfl (Nat.le_of_ble_eq_true rfl) dX10_init_42 (fun H locs hP hS => ?_)
  have hP : fb_P E (A ++ [.inr (8, [.int 0, .ref (fw_z E + (a + 1)), .ref (fw_z E + (a + 2)), .ref (fw_z E + (a + 3)), .ref (fw_z E + (a + 4)), .int 0, .int 0, .ref (fw_z E + (a + 5)), .null, .null, .null, .int 0, .int 0, .int 0, .int 0, .int 0, .int 0, .int 0, .int 0, .int 0]), .inl (fw_cy E 0, 104, .inl (fun _ => 0)), .inl (fw_cy E 0, 104, .inl (fun _ => 0)), .inl (fw_cy E 0, 104, .inl (fun _ => 0)), .inl (fw_cy E 0, 832, .inl (fun _ => 0)), .inl (fw_cy E 0, 60, .inl (fun _ => 0))]) H := hP
  refine lv_aload_n hx hb dX10_init_45 rfl (lv_at hl 0 rfl) ?_
  refine lv_sipush (v := (300 : Int32)) hx hb dX10_init_46 (by decide) ?_
  refine fb_newa (atype := .int) (ty := .int) (t0 := 0) (cT := fw_cy E 0) (a0 := (300, .inl (fun _ => 0))) (N' := 300) (nn := 6) hx hb (hU (Cond.arrayClass .int) mc_98) rfl hK ha hP hS rfl rfl (fun h => h) (fun _ => by first | rw [vp_cell_i]; rfl | rw [vp_cell_f]; rfl) (by decide) (by decide) (by decide) (show (6 : Nat) ≤ 8 from by decide) (show (1504 : Nat) ≤ 1720 from by decide) dX10_init_49 (fun H hP hS => ?_)
  have hP : fb_P E (A ++ [.inr (8, [.int 0, .ref (fw_z E + (a + 1)), .ref (fw_z E + (a + 2)), .ref (fw_z E + (a + 3)), .ref (fw_z E + (a + 4)), .int 0, .int 0, .ref (fw_z E + (a + 5)), .null, .null, .null, .int 0, .int 0, .int 0, .int 0, .int 0, .int 0, .int 0, .int 0, .int 0]), .inl (fw_cy E 0, 104, .inl (fun _ => 0)), .inl (fw_cy E 0, 104, .inl (fun _ => 0)), .inl (fw_cy E 0, 104, .inl (fun _ => 0)), .inl (fw_cy E 0, 832, .inl (fun _ => 0)), .inl (fw_cy E 0, 60, .inl (fun _ => 0)), .inl (fw_cy E 0, 300, .inl (fun _ => 0))]) H := hP
  refine fb_putF (ci := 8) (v := .ref (fw_z E + (a + 6))) (ty := .array .int) (C := RX10) (T := TX10) (N := 20) hx hb hU inU10 tyX10 tyX10_ok nmX10 hown hK ha hP hS 0 rfl rfl 8 (by decide) (hU (Cond.fieldLink RX10 25 "LaundryServiceModel" "told" "[I") mc_1125) (fun _ h9 => h9) rfl hin rfl (by decide +kernel) rfl rfl (Nat.le_of_ble_eq_true rfl) dX10_init_51 (fun H locs hP hS => ?_)
  have hP : fb_P E (A ++ [.inr (8, [.int 0, .ref (fw_z E + (a + 1)), .ref (fw_z E + (a + 2)), .ref (fw_z E + (a + 3)), .ref (fw_z E + (a + 4)), .int 0, .int 0, .ref (fw_z E + (a + 5)), .ref (fw_z E + (a + 6)), .null, .null, .int 0, .int 0, .int 0, .int 0, .int 0, .int 0, .int 0, .int 0, .int 0]), .inl (fw_cy E 0, 104, .inl (fun _ => 0)), .inl (fw_cy E 0, 104, .inl (fun _ => 0)), .inl (fw_cy E 0, 104, .inl (fun _ => 0)), .inl (fw_cy E 0, 832, .inl (fun _ => 0)), .inl (fw_cy E 0, 60, .inl (fun _ => 0)), .inl (fw_cy E 0, 300, .inl (fun _ => 0))]) H := hP
  refine lv_aload_n hx hb dX10_init_54 rfl (lv_at hl 0 rfl) ?_
  refine lv_sipush (v := (200 : Int32)) hx hb dX10_init_55 (by decide) ?_
  refine fb_newa (atype := .int) (ty := .int) (t0 := 0) (cT := fw_cy E 0) (a0 := (200, .inl (fun _ => 0))) (N' := 200) (nn := 7) hx hb (hU (Cond.arrayClass .int) mc_98) rfl hK ha hP hS rfl rfl (fun h => h) (fun _ => by first | rw [vp_cell_i]; rfl | rw [vp_cell_f]; rfl) (by decide) (by decide) (by decide) (show (7 : Nat) ≤ 8 from by decide) (show (1704 : Nat) ≤ 1720 from by decide) dX10_init_58 (fun H hP hS => ?_)
  have hP : fb_P E (A ++ [.inr (8, [.int 0, .ref (fw_z E + (a + 1)), .ref (fw_z E + (a + 2)), .ref (fw_z E + (a + 3)), .ref (fw_z E + (a + 4)), .int 0, .int 0, .ref (fw_z E + (a + 5)), .ref (fw_z E + (a + 6)), .null, .null, .int 0, .int 0, .int 0, .int 0, .int 0, .int 0, .int 0, .int 0, .int 0]), .inl (fw_cy E 0, 104, .inl (fun _ => 0)), .inl (fw_cy E 0, 104, .inl (fun _ => 0)), .inl (fw_cy E 0, 104, .inl (fun _ => 0)), .inl (fw_cy E 0, 832, .inl (fun _ => 0)), .inl (fw_cy E 0, 60, .inl (fun _ => 0)), .inl (fw_cy E 0, 300, .inl (fun _ => 0)), .inl (fw_cy E 0, 200, .inl (fun _ => 0))]) H := hP
  refine fb_putF (ci := 8) (v := .ref (fw_z E + (a + 7))) (ty := .array .int) (C := RX10) (T := TX10) (N := 20) hx hb hU inU10 tyX10 tyX10_ok nmX10 hown hK ha hP hS 0 rfl rfl 9 (by decide) (hU (Cond.fieldLink RX10 28 "LaundryServiceModel" "out" "[I") mc_1126) (fun _ h9 => h9) rfl hin rfl (by decide +kernel) rfl rfl (Nat.le_of_ble_eq_true rfl) dX10_init_60 (fun H locs hP hS => ?_)
  have hP : fb_P E (A ++ [.inr (8, [.int 0, .ref (fw_z E + (a + 1)), .ref (fw_z E + (a + 2)), .ref (fw_z E + (a + 3)), .ref (fw_z E + (a + 4)), .int 0, .int 0, .ref (fw_z E + (a + 5)), .ref (fw_z E + (a + 6)), .ref (fw_z E + (a + 7)), .null, .int 0, .int 0, .int 0, .int 0, .int 0, .int 0, .int 0, .int 0, .int 0]), .inl (fw_cy E 0, 104, .inl (fun _ => 0)), .inl (fw_cy E 0, 104, .inl (fun _ => 0)), .inl (fw_cy E 0, 104, .inl (fun _ => 0)), .inl (fw_cy E 0, 832, .inl (fun _ => 0)), .inl (fw_cy E 0, 60, .inl (fun _ => 0)), .inl (fw_cy E 0, 300, .inl (fun _ => 0)), .inl (fw_cy E 0, 200, .inl (fun _ => 0))]) H := hP
  refine lv_aload_n hx hb dX10_init_63 rfl (lv_at hl 0 rfl) ?_
  refine lv_bipush (v := (16 : Int32)) hx hb dX10_init_64 (by decide) ?_
  refine fb_newa (atype := .int) (ty := .int) (t0 := 0) (cT := fw_cy E 0) (a0 := (16, .inl (fun _ => 0))) (N' := 16) (nn := 8) hx hb (hU (Cond.arrayClass .int) mc_98) rfl hK ha hP hS rfl rfl (fun h => h) (fun _ => by first | rw [vp_cell_i]; rfl | rw [vp_cell_f]; rfl) (by decide) (by decide) (by decide) (show (8 : Nat) ≤ 8 from by decide) (show (1720 : Nat) ≤ 1720 from by decide) dX10_init_66 (fun H hP hS => ?_)
  have hP : fb_P E (A ++ [.inr (8, [.int 0, .ref (fw_z E + (a + 1)), .ref (fw_z E + (a + 2)), .ref (fw_z E + (a + 3)), .ref (fw_z E + (a + 4)), .int 0, .int 0, .ref (fw_z E + (a + 5)), .ref (fw_z E + (a + 6)), .ref (fw_z E + (a + 7)), .null, .int 0, .int 0, .int 0, .int 0, .int 0, .int 0, .int 0, .int 0, .int 0]), .inl (fw_cy E 0, 104, .inl (fun _ => 0)), .inl (fw_cy E 0, 104, .inl (fun _ => 0)), .inl (fw_cy E 0, 104, .inl (fun _ => 0)), .inl (fw_cy E 0, 832, .inl (fun _ => 0)), .inl (fw_cy E 0, 60, .inl (fun _ => 0)), .inl (fw_cy E 0, 300, .inl (fun _ => 0)), .inl (fw_cy E 0, 200, .inl (fun _ => 0)), .inl (fw_cy E 0, 16, .inl (fun _ => 0))]) H := hP
  refine fb_putF (ci := 8) (v := .ref (fw_z E + (a + 8))) (ty := .array .int) (C := RX10) (T := TX10) (N := 20) hx hb hU inU10 tyX10 tyX10_ok nmX10 hown hK ha hP hS 0 rfl rfl 10 (by decide) (hU (Cond.fieldLink RX10 31 "LaundryServiceModel" "after" "[I") mc_1127) (fun _ h9 => h9) rfl hin rfl (by decide +kernel) rfl rfl (Nat.le_of_ble_eq_true rfl) dX10_init_68 (fun H locs hP hS => ?_)
  have hP : fb_P E (A ++ [.inr (8, [.int 0, .ref (fw_z E + (a + 1)), .ref (fw_z E + (a + 2)), .ref (fw_z E + (a + 3)), .ref (fw_z E + (a + 4)), .int 0, .int 0, .ref (fw_z E + (a + 5)), .ref (fw_z E + (a + 6)), .ref (fw_z E + (a + 7)), .ref (fw_z E + (a + 8)), .int 0, .int 0, .int 0, .int 0, .int 0, .int 0, .int 0, .int 0, .int 0]), .inl (fw_cy E 0, 104, .inl (fun _ => 0)), .inl (fw_cy E 0, 104, .inl (fun _ => 0)), .inl (fw_cy E 0, 104, .inl (fun _ => 0)), .inl (fw_cy E 0, 832, .inl (fun _ => 0)), .inl (fw_cy E 0, 60, .inl (fun _ => 0)), .inl (fw_cy E 0, 300, .inl (fun _ => 0)), .inl (fw_cy E 0, 200, .inl (fun _ => 0)), .inl (fw_cy E 0, 16, .inl (fun _ => 0))]) H := hP
  refine lv_aload_n hx hb dX10_init_71 rfl (lv_at hl 0 rfl) ?_
  refine lv_iconst (v := (-1 : Int32)) hx hb dX10_init_72 (by decide) ?_
  refine fb_put (ci := 8) (v := .int (-1 : Int32)) (ty := .int) (C := RX10) (T := TX10) (N := 20) hx hb hU inU10 tyX10 tyX10_ok nmX10 hown hK ha hP hS 0 rfl rfl 13 (by decide) (hU (Cond.fieldLink RX10 34 "LaundryServiceModel" "faultAt" "I") mc_1130) (fun _ h9 => h9) rfl (by decide +kernel) rfl rfl (Nat.le_of_ble_eq_true rfl) dX10_init_73 (fun H locs hP hS => ?_)
  have hP : fb_P E (A ++ [.inr (8, [.int 0, .ref (fw_z E + (a + 1)), .ref (fw_z E + (a + 2)), .ref (fw_z E + (a + 3)), .ref (fw_z E + (a + 4)), .int 0, .int 0, .ref (fw_z E + (a + 5)), .ref (fw_z E + (a + 6)), .ref (fw_z E + (a + 7)), .ref (fw_z E + (a + 8)), .int 0, .int 0, .int (-1 : Int32), .int 0, .int 0, .int 0, .int 0, .int 0, .int 0]), .inl (fw_cy E 0, 104, .inl (fun _ => 0)), .inl (fw_cy E 0, 104, .inl (fun _ => 0)), .inl (fw_cy E 0, 104, .inl (fun _ => 0)), .inl (fw_cy E 0, 832, .inl (fun _ => 0)), .inl (fw_cy E 0, 60, .inl (fun _ => 0)), .inl (fw_cy E 0, 300, .inl (fun _ => 0)), .inl (fw_cy E 0, 200, .inl (fun _ => 0)), .inl (fw_cy E 0, 16, .inl (fun _ => 0))]) H := hP
  refine lv_aload_n hx hb dX10_init_76 rfl (lv_at hl 0 rfl) ?_
  refine lv_iconst (v := (-1 : Int32)) hx hb dX10_init_77 (by decide) ?_
  refine fb_put (ci := 8) (v := .int (-1 : Int32)) (ty := .int) (C := RX10) (T := TX10) (N := 20) hx hb hU inU10 tyX10 tyX10_ok nmX10 hown hK ha hP hS 0 rfl rfl 14 (by decide) (hU (Cond.fieldLink RX10 38 "LaundryServiceModel" "failedAt" "I") mc_1131) (fun _ h9 => h9) rfl (by decide +kernel) rfl rfl (Nat.le_of_ble_eq_true rfl) dX10_init_78 (fun H locs hP hS => ?_)
  have hP : fb_P E (A ++ [.inr (8, [.int 0, .ref (fw_z E + (a + 1)), .ref (fw_z E + (a + 2)), .ref (fw_z E + (a + 3)), .ref (fw_z E + (a + 4)), .int 0, .int 0, .ref (fw_z E + (a + 5)), .ref (fw_z E + (a + 6)), .ref (fw_z E + (a + 7)), .ref (fw_z E + (a + 8)), .int 0, .int 0, .int (-1 : Int32), .int (-1 : Int32), .int 0, .int 0, .int 0, .int 0, .int 0]), .inl (fw_cy E 0, 104, .inl (fun _ => 0)), .inl (fw_cy E 0, 104, .inl (fun _ => 0)), .inl (fw_cy E 0, 104, .inl (fun _ => 0)), .inl (fw_cy E 0, 832, .inl (fun _ => 0)), .inl (fw_cy E 0, 60, .inl (fun _ => 0)), .inl (fw_cy E 0, 300, .inl (fun _ => 0)), .inl (fw_cy E 0, 200, .inl (fun _ => 0)), .inl (fw_cy E 0, 16, .inl (fun _ => 0))]) H := hP
  refine lv_aload_n hx hb dX10_init_81 rfl (lv_at hl 0 rfl) ?_
  refine va_get (D := fw_D E) (ci := 8) (v := .ref (fw_z E + (a + 1))) (C := RX10) (T := TX10) (N := 20) hx hb hU inU10 hown hK (fb_one hP ((fb_ix (k := 0) ha).trans rfl)) 0 rfl rfl 1 (by decide) (hU (Cond.fieldLink RX10 7 "LaundryServiceModel" "s" "[I") mc_1118) (fun _ h9 => h9) rfl dX10_init_82 ?_
  refine lv_iconst (v := (2 : Int32)) hx hb dX10_init_85 (by decide) ?_
  refine lv_bipush (v := (80 : Int32)) hx hb dX10_init_86 (by decide) ?_
  refine fb_iast (n := 104) hx hb hK ha hP hS 1 rfl (vp_in_d (by decide)) dX10_init_88 (fun H locs hP hS => ?_)
  have hP : fb_P E (A ++ [.inr (8, [.int 0, .ref (fw_z E + (a + 1)), .ref (fw_z E + (a + 2)), .ref (fw_z E + (a + 3)), .ref (fw_z E + (a + 4)), .int 0, .int 0, .ref (fw_z E + (a + 5)), .ref (fw_z E + (a + 6)), .ref (fw_z E + (a + 7)), .ref (fw_z E + (a + 8)), .int 0, .int 0, .int (-1 : Int32), .int (-1 : Int32), .int 0, .int 0, .int 0, .int 0, .int 0]), .inl (fw_cy E 0, 104, .inl (upd (fun _ => 0) ((2 : Int32)).toNatClampNeg (80 : Int32))), .inl (fw_cy E 0, 104, .inl (fun _ => 0)), .inl (fw_cy E 0, 104, .inl (fun _ => 0)), .inl (fw_cy E 0, 832, .inl (fun _ => 0)), .inl (fw_cy E 0, 60, .inl (fun _ => 0)), .inl (fw_cy E 0, 300, .inl (fun _ => 0)), .inl (fw_cy E 0, 200, .inl (fun _ => 0)), .inl (fw_cy E 0, 16, .inl (fun _ => 0))]) H := hP
  refine lv_aload_n hx hb dX10_init_89 rfl (lv_at hl 0 rfl) ?_
  refine va_get (D := fw_D E) (ci := 8) (v := .ref (fw_z E + (a + 1))) (C := RX10) (T := TX10) (N := 20) hx hb hU inU10 hown hK (fb_one hP ((fb_ix (k := 0) ha).trans rfl)) 0 rfl rfl 1 (by decide) (hU (Cond.fieldLink RX10 7 "LaundryServiceModel" "s" "[I") mc_1118) (fun _ h9 => h9) rfl dX10_init_90 ?_
  refine lv_iconst (v := (3 : Int32)) hx hb dX10_init_93 (by decide) ?_
  refine lv_bipush (v := (80 : Int32)) hx hb dX10_init_94 (by decide) ?_
  refine fb_iast (n := 104) hx hb hK ha hP hS 1 rfl (vp_in_d (by decide)) dX10_init_96 (fun H locs hP hS => ?_)
  have hP : fb_P E (A ++ [.inr (8, [.int 0, .ref (fw_z E + (a + 1)), .ref (fw_z E + (a + 2)), .ref (fw_z E + (a + 3)), .ref (fw_z E + (a + 4)), .int 0, .int 0, .ref (fw_z E + (a + 5)), .ref (fw_z E + (a + 6)), .ref (fw_z E + (a + 7)), .ref (fw_z E + (a + 8)), .int 0, .int 0, .int (-1 : Int32), .int (-1 : Int32), .int 0, .int 0, .int 0, .int 0, .int 0]), .inl (fw_cy E 0, 104, .inl (upd (upd (fun _ => 0) ((2 : Int32)).toNatClampNeg (80 : Int32)) ((3 : Int32)).toNatClampNeg (80 : Int32))), .inl (fw_cy E 0, 104, .inl (fun _ => 0)), .inl (fw_cy E 0, 104, .inl (fun _ => 0)), .inl (fw_cy E 0, 832, .inl (fun _ => 0)), .inl (fw_cy E 0, 60, .inl (fun _ => 0)), .inl (fw_cy E 0, 300, .inl (fun _ => 0)), .inl (fw_cy E 0, 200, .inl (fun _ => 0)), .inl (fw_cy E 0, 16, .inl (fun _ => 0))]) H := hP
  have hP : fb_P E (A ++ fb_md E a) H := hP
  refine W.widen (k := 8) (n := 1720) (show (8 : Nat) ≤ 8 from by decide) (show (1720 : Nat) ≤ 1720 from by decide) ?_
  exact W.vret hx hb hr (fun t ht hW => ⟨rfl, by rw [ht]; exact hP, hS.F ht⟩) hS.2.2 dX10_init_97
set_option maxHeartbeats 300000 in
set_option maxRecDepth 100000 in
theorem kc_X3 (l : Launch) {E : fw_E} {A : List va_E} {a : Nat} (ha : A.length = a) : Met l yX3_init (fw_ws yX3_init cX3_init 2 none) ({ frames := 2, cells := 82, slots := 1017, locals := 42 } : Room) (va_Pc [.ref (fw_z E + a)] (fb_Pre E (A ++ [.inr (4, [.null, .int 0, .int 0])]))) (fb_Q E (A ++ fb_hs E a)) 82 1017 (fw_A E) := by
  refine Met.ofW (cc := cX3_init) (maxL := 2) (ret := none) (by decide) rfl ?_
  intro p e s m args below meth c s₁ B hml hv
  obtain ⟨ha9, hK, hP, hSt, hO1, hO2⟩ := hv
  have hx := B.exec
  have hb := B.bytes
  have hr := B.returns
  have hts := atoms_spec (ws := fw_ws yX3_init cX3_init 2 none) B.pre
  have hU : ∀ w ∈ fw_U, w.before args s = true := fun w hw => hts w (List.mem_cons_of_mem _ hw)
  have hown : s.vm.findClass RX3 = some m.cls := findClass_of_methodNamed B.named
  have hlocks := B.notSynchronized
  have hin : meth.name = "<init>" := (name_of_methodNamed B.named B.method).1
  have hS : va_S (fw_A E) s.heap s.heap [] := va_S.rf
  subst ha9
  have hl := lv_entry ([.ref (fw_z E + a)]) (n := 2) (Nat.le_of_ble_eq_true rfl)
  rw [lg_entry_eq]
  generalize (lg_sl ([.ref (fw_z E + a)]) ++ List.replicate (2 - (lg_sl ([.ref (fw_z E + a)])).length) Slot.unset).toArray = ls at hl ⊢
  have hl : lv_has ls 2 [(0, .ref (fw_z E + a))] := hl
  refine lv_aload_n hx hb dX3_init_0 rfl (lv_at hl 0 rfl) ?_
  refine W.objInit hx hb hown (hU (Cond.methodLink RX3 3 Lib.objectInit) mc_106) (hU (Cond.instanceMethod Lib.objectInit) mc_37) (hU (Cond.code Lib.objectInit ⟨#[0xb1]⟩ 1 none) mc_38) rfl (by rw [hml]; exact hl.1) rfl dX3_init_1 (Nat.le_of_ble_eq_true rfl) (Nat.le_of_ble_eq_true rfl) ?_
  refine W.eq (g2 := F0 m 4 ls []) rfl ?_
  refine lv_aload_n hx hb dX3_init_4 rfl (lv_at hl 0 rfl) ?_
  refine lv_bipush (v := (9 : Int32)) hx hb dX3_init_5 (by decide) ?_
  refine fb_anew (t0 := 5) (cT := fw_cy E 5) (N' := 9) (nn := 1) hx hb hown (hU (Cond.classLink RX3 9 "LaundryService$State") mc_107) hO1 hK ha hP hS rfl rfl (by decide) (by decide) (by decide) (show (1 : Nat) ≤ 82 from by decide) (show (9 : Nat) ≤ 1017 from by decide) dX3_init_7 (fun H hP hS => ?_)
  have hP : fb_P E (A ++ [.inr (4, [.null, .int 0, .int 0]), .inl (fw_cy E 5, 9, .inr (.inr (.inr (.inr (fun _ => none)))))]) H := hP
  refine fb_putF (ci := 4) (v := .ref (fw_z E + (a + 1))) (ty := .array (.object "LaundryService$State")) (C := RX3) (T := TX3) (N := 3) hx hb hU inU3 tyX3 tyX3_ok nmX3 hown hK ha hP hS 0 rfl rfl 0 (by decide) (hU (Cond.fieldLink RX3 11 "LaundryService$History" "rows" "[LLaundryService$State;") mc_110) (fun _ h9 => h9) rfl hin rfl (by decide +kernel) rfl rfl (Nat.le_of_ble_eq_true rfl) dX3_init_10 (fun H locs hP hS => ?_)
  have hP : fb_P E (A ++ [.inr (4, [.ref (fw_z E + (a + 1)), .int 0, .int 0]), .inl (fw_cy E 5, 9, .inr (.inr (.inr (.inr (fun _ => none)))))]) H := hP
  refine lv_aload_n hx hb dX3_init_13 rfl (lv_at hl 0 rfl) ?_
  refine lv_iconst (v := (0 : Int32)) hx hb dX3_init_14 (by decide) ?_
  refine fb_put (ci := 4) (v := .int (0 : Int32)) (ty := .int) (C := RX3) (T := TX3) (N := 3) hx hb hU inU3 tyX3 tyX3_ok nmX3 hown hK ha hP hS 0 rfl rfl 1 (by decide) (hU (Cond.fieldLink RX3 17 "LaundryService$History" "newest" "I") mc_111) (fun _ h9 => h9) rfl (by decide +kernel) rfl rfl (Nat.le_of_ble_eq_true rfl) dX3_init_15 (fun H locs hP hS => ?_)
  have hP : fb_P E (A ++ [.inr (4, [.ref (fw_z E + (a + 1)), .int (0 : Int32), .int 0]), .inl (fw_cy E 5, 9, .inr (.inr (.inr (.inr (fun _ => none)))))]) H := hP
  refine lv_aload_n hx hb dX3_init_18 rfl (lv_at hl 0 rfl) ?_
  refine lv_iconst (v := (0 : Int32)) hx hb dX3_init_19 (by decide) ?_
  refine fb_put (ci := 4) (v := .int (0 : Int32)) (ty := .int) (C := RX3) (T := TX3) (N := 3) hx hb hU inU3 tyX3 tyX3_ok nmX3 hown hK ha hP hS 0 rfl rfl 2 (by decide) (hU (Cond.fieldLink RX3 21 "LaundryService$History" "count" "I") mc_112) (fun _ h9 => h9) rfl (by decide +kernel) rfl rfl (Nat.le_of_ble_eq_true rfl) dX3_init_20 (fun H locs hP hS => ?_)
  have hP : fb_P E (A ++ [.inr (4, [.ref (fw_z E + (a + 1)), .int (0 : Int32), .int (0 : Int32)]), .inl (fw_cy E 5, 9, .inr (.inr (.inr (.inr (fun _ => none)))))]) H := hP
  refine lv_iconst (v := (0 : Int32)) hx hb dX3_init_23 (by decide) ?_
  refine lv_istore_n (lv' := [(1, .int (0 : Int32)), (0, .ref (fw_z E + a))]) hx hb dX3_init_24 rfl hl (by decide) rfl (fun ls hl => ?_)
  rw [fb_up0 (fun q => fw_z E + (a + (2 + 9 * q)))] at hP
  have hP : fb_P E (A ++ fb_hw E a 0) H := hP
  have EN : ∀ (n i : Nat), n + i = 9 → ∀ (H : Heap) (locs : List Loc) (ls : Array Slot) (cells slots : Nat), fb_P E (A ++ fb_hw E a i) H → va_S (fw_A E) s.heap H locs → lv_has ls 2 [(1, .int (nI i)), (0, .ref (fw_z E + a))] → cells + 9 * n ≤ 82 → slots + 112 * n ≤ 1017 → W p l e (headSpec (fw_ws yX3_init cX3_init 2 none) ({ frames := 2, cells := 82, slots := 1017, locals := 42 } : Room)).room s m (([Value.ref (fw_z E + a)] : List Value).toArray) below meth c H locs cells slots (MQ below (fb_Q E (A ++ fb_hs E a)) (([Value.ref (fw_z E + a)] : List Value).toArray) s 82 1017 (fw_A E)) (F0 m 25 ls []) := by
    intro n
    induction n with
    | zero =>
      intro i hi H locs ls cells slots hP hS hl hc hs
      obtain rfl : i = 9 := by omega
      refine lv_iload_n hx hb dX3_init_25 rfl (lv_at hl 0 rfl) ?_
      refine lv_aload_n hx hb dX3_init_26 rfl (lv_at hl 1 rfl) ?_
      refine va_get (D := fw_D E) (ci := 4) (v := .ref (fw_z E + (a + 1))) (C := RX3) (T := TX3) (N := 3) hx hb hU inU3 hown hK (fb_one hP ((fb_ix (k := 0) ha).trans rfl)) 0 rfl rfl 0 (by decide) (hU (Cond.fieldLink RX3 11 "LaundryService$History" "rows" "[LLaundryService$State;") mc_110) (fun _ h9 => h9) rfl dX3_init_27 ?_
      refine va_alen (D := fw_D E) (v := (9 : Int32)) hx hb hK (fb_one hP ((fb_ix (k := 1) ha).trans rfl)) 0 5 rfl rfl rfl dX3_init_30 ?_
      refine lv_icmp_ge (tgt := 53) hx hb dX3_init_31 (by decide) (fun c => ?_) (fun c => absurd c (by decide))
      refine W.widen (k := 82) (n := 1017) (by omega) (by omega) ?_
      exact W.vret hx hb hr (fun t ht hW => ⟨rfl, by rw [ht]; exact hP, hS.F ht⟩) hS.2.2 dX3_init_53
    | succ n ih =>
      intro i hi H locs ls cells slots hP hS hl hc hs
      have hi9 : i < 9 := by omega
      refine lv_iload_n hx hb dX3_init_25 rfl (lv_at hl 0 rfl) ?_
      refine lv_aload_n hx hb dX3_init_26 rfl (lv_at hl 1 rfl) ?_
      refine va_get (D := fw_D E) (ci := 4) (v := .ref (fw_z E + (a + 1))) (C := RX3) (T := TX3) (N := 3) hx hb hU inU3 hown hK (fb_one hP ((fb_ix (k := 0) ha).trans rfl)) 0 rfl rfl 0 (by decide) (hU (Cond.fieldLink RX3 11 "LaundryService$History" "rows" "[LLaundryService$State;") mc_110) (fun _ h9 => h9) rfl dX3_init_27 ?_
      refine va_alen (D := fw_D E) (v := (9 : Int32)) hx hb hK (fb_one hP ((fb_ix (k := 1) ha).trans rfl)) 0 5 rfl rfl rfl dX3_init_30 ?_
      refine lv_icmp_ge (tgt := 53) hx hb dX3_init_31 (by decide) (fun c => absurd c (nI_ge hi9 (by decide))) (fun c => ?_)
      refine lv_aload_n hx hb dX3_init_34 rfl (lv_at hl 1 rfl) ?_
      refine va_get (D := fw_D E) (ci := 4) (v := .ref (fw_z E + (a + 1))) (C := RX3) (T := TX3) (N := 3) hx hb hU inU3 hown hK (fb_one hP ((fb_ix (k := 0) ha).trans rfl)) 0 rfl rfl 0 (by decide) (hU (Cond.fieldLink RX3 11 "LaundryService$History" "rows" "[LLaundryService$State;") mc_110) (fun _ h9 => h9) rfl dX3_init_35 ?_
      refine lv_iload_n hx hb dX3_init_38 rfl (lv_at hl 0 rfl) ?_
      refine fb_new (ci := 6) (fs := [.null, .null, .null, .null, .null, .null, .int 0, .null, .null, .int 0]) (C := RX7) (T := TX7) (N := 10) (n := (2 + 9 * i)) hx hb hU inU7 tyX7 tyX7_ok hown (hU (Cond.classLink RX3 9 RX7) mc_107) (hU (Cond.instantiable RX7 10) mc_40) (hU (Cond.initialized RX7) mc_2) hK ha hP hS fb_hw_len rfl (by decide +kernel) (show cells + 1 ≤ 82 from by omega) (show slots + 10 ≤ 1017 from by omega) dX3_init_39 (fun H hP hS => ?_)
      refine lv_dup hx hb dX3_init_42 rfl ?_
      have hP9 : fb_P E ((A ++ fb_hw E a i) ++ [.inr (6, [.null, .null, .null, .null, .null, .null, .int 0, .null, .null, .int 0])]) H := by rw [List.append_assoc]; exact hP
      refine fb_ret (va_runI (As := []) (rest := [.ref (fw_z E + (a + (2 + 9 * i))), .int (nI i), .ref (fw_z E + (a + 1))]) ⟨hx, hb, hml, hown, hU⟩ (kc_X7 l (A := A ++ fb_hw E a i) (a := a + (2 + 9 * i)) (by rw [List.length_append, ha]; rw [fb_hw_len])) (cwI 0 hU (fw_gC mc_43) rfl rfl rfl (hU (Cond.initialized RX7) mc_2) (hU (Cond.methodLink RX3 24 yX7_init) mc_109) (hU (Cond.instanceMethod yX7_init) mc_42) rfl (by decide +kernel) ⟨(Nat.le_of_ble_eq_true rfl), (Nat.le_of_ble_eq_true rfl)⟩) ⟨fb_blind, fun U hU9 hW9 => ⟨rfl, fb_pre hK hP9 hSt hO1 hO2 hS U hU9 hW9⟩⟩ rfl rfl hl.1 rfl (lv_room (Nat.le_of_ble_eq_true rfl)) dX3_init_43 ⟨show cells + 1 + 8 ≤ 82 from by omega, show slots + 10 + 102 ≤ 1017 from by omega⟩) hS (fun H locs hP hS => ?_)
      rw [List.append_assoc] at hP
      refine fb_aast (cA := fw_cy E 5) (r := (RX7, TX7, 10)) (n := 9) (vs := [.ref (fw_z E + (a + (2 + 9 * i) + 1)), .ref (fw_z E + (a + (2 + 9 * i) + 2)), .ref (fw_z E + (a + (2 + 9 * i) + 3)), .ref (fw_z E + (a + (2 + 9 * i) + 4)), .ref (fw_z E + (a + (2 + 9 * i) + 5)), .ref (fw_z E + (a + (2 + 9 * i) + 6)), .int 0, .ref (fw_z E + (a + (2 + 9 * i) + 7)), .ref (fw_z E + (a + (2 + 9 * i) + 8)), .int 0]) hx hb hK ha hP hS 1 (2 + 9 * i) 5 6 rfl rfl (by rw [List.getElem?_append_right (by rw [fb_hw_len]; exact Nat.le_refl _), fb_hw_len, Nat.sub_self]; rfl) rfl (nI_in hi9 (by decide)) dX3_init_46 (fun H locs hP hS => ?_)
      rw [nI_clamp (show i < 2 ^ 31 by omega), fb_upS (fun q => fw_z E + (a + (2 + 9 * q))) i] at hP
      have hP : fb_P E (A ++ fb_hw E a (i + 1)) H := hP
      refine lv_iinc (v := (nI i + (1 : Int32))) (lv' := [(1, .int (nI i + (1 : Int32))), (0, .ref (fw_z E + a))]) hx hb dX3_init_47 hl (k := 0) rfl rfl (by decide) rfl (fun ls hl => ?_)
      rw [nI_1] at hl
      refine lv_goto (tgt := 25) hx hb dX3_init_50 (by decide) ?_
      exact ih (i + 1) (by omega) _ _ _ _ _ hP hS hl (by omega) (by omega)
  exact EN 9 0 rfl _ _ _ _ _ hP hS hl (by decide) (by decide)
set_option maxHeartbeats 300000 in
set_option maxRecDepth 100000 in
theorem kc_X1 (l : Launch) {E : fw_E} {A : List va_E} {a : Nat} (ha : A.length = a) : Met l yX1_init (fw_ws yX1_init cX1_init 2 none) ({ frames := 2, cells := 14, slots := 120, locals := 42 } : Room) (va_Pc [.ref (fw_z E + a)] (fb_Pre E (A ++ [.inr (3, [.null, .int 0, .int 0, .null, .int 0])]))) (fb_Q E (A ++ fb_ct E a)) 14 120 (fw_A E) := by
  refine Met.ofW (cc := cX1_init) (maxL := 2) (ret := none) (by decide) rfl ?_
  intro p e s m args below meth c s₁ B hml hv
  obtain ⟨ha9, hK, hP, hSt, hO1, hO2⟩ := hv
  have hx := B.exec
  have hb := B.bytes
  have hr := B.returns
  have hts := atoms_spec (ws := fw_ws yX1_init cX1_init 2 none) B.pre
  have hU : ∀ w ∈ fw_U, w.before args s = true := fun w hw => hts w (List.mem_cons_of_mem _ hw)
  have hown : s.vm.findClass RX1 = some m.cls := findClass_of_methodNamed B.named
  have hlocks := B.notSynchronized
  have hin : meth.name = "<init>" := (name_of_methodNamed B.named B.method).1
  have hS : va_S (fw_A E) s.heap s.heap [] := va_S.rf
  subst ha9
  have hl := lv_entry ([.ref (fw_z E + a)]) (n := 2) (Nat.le_of_ble_eq_true rfl)
  rw [lg_entry_eq]
  generalize (lg_sl ([.ref (fw_z E + a)]) ++ List.replicate (2 - (lg_sl ([.ref (fw_z E + a)])).length) Slot.unset).toArray = ls at hl ⊢
  have hl : lv_has ls 2 [(0, .ref (fw_z E + a))] := hl
  refine lv_aload_n hx hb dX1_init_0 rfl (lv_at hl 0 rfl) ?_
  refine W.objInit hx hb hown (hU (Cond.methodLink RX1 3 Lib.objectInit) mc_126) (hU (Cond.instanceMethod Lib.objectInit) mc_37) (hU (Cond.code Lib.objectInit ⟨#[0xb1]⟩ 1 none) mc_38) rfl (by rw [hml]; exact hl.1) rfl dX1_init_1 (Nat.le_of_ble_eq_true rfl) (Nat.le_of_ble_eq_true rfl) ?_
  refine W.eq (g2 := F0 m 4 ls []) rfl ?_
  refine lv_aload_n hx hb dX1_init_4 rfl (lv_at hl 0 rfl) ?_
  refine lv_bipush (v := (60 : Int32)) hx hb dX1_init_5 (by decide) ?_
  refine fb_newa (atype := .char) (ty := .char) (t0 := 2) (cT := fw_cy E 2) (a0 := (60, .inl (fun _ => 0))) (N' := 60) (nn := 1) hx hb (hU (Cond.arrayClass .char) mc_157) rfl hK ha hP hS rfl rfl (fun h => h) (fun _ => by first | rw [vp_cell_i]; rfl | rw [vp_cell_f]; rfl) (by decide) (by decide) (by decide) (show (1 : Nat) ≤ 14 from by decide) (show (60 : Nat) ≤ 120 from by decide) dX1_init_7 (fun H hP hS => ?_)
  have hP : fb_P E (A ++ [.inr (3, [.null, .int 0, .int 0, .null, .int 0]), .inl (fw_cy E 2, 60, .inl (fun _ => 0))]) H := hP
  refine fb_putF (ci := 3) (v := .ref (fw_z E + (a + 1))) (ty := .array .char) (C := RX1) (T := TX1) (N := 5) hx hb hU inU1 tyX1 tyX1_ok nmX1 hown hK ha hP hS 0 rfl rfl 0 (by decide) (hU (Cond.fieldLink RX1 9 "LaundryService$CommandText" "characters" "[C") mc_158) (fun _ h9 => h9) rfl hin rfl (by decide +kernel) rfl rfl (Nat.le_of_ble_eq_true rfl) dX1_init_9 (fun H locs hP hS => ?_)
  have hP : fb_P E (A ++ [.inr (3, [.ref (fw_z E + (a + 1)), .int 0, .int 0, .null, .int 0]), .inl (fw_cy E 2, 60, .inl (fun _ => 0))]) H := hP
  refine lv_aload_n hx hb dX1_init_12 rfl (lv_at hl 0 rfl) ?_
  refine lv_iconst (v := (0 : Int32)) hx hb dX1_init_13 (by decide) ?_
  refine fb_put (ci := 3) (v := .int (0 : Int32)) (ty := .int) (C := RX1) (T := TX1) (N := 5) hx hb hU inU1 tyX1 tyX1_ok nmX1 hown hK ha hP hS 0 rfl rfl 1 (by decide) (hU (Cond.fieldLink RX1 15 "LaundryService$CommandText" "length" "I") mc_159) (fun _ h9 => h9) rfl (by decide +kernel) rfl rfl (Nat.le_of_ble_eq_true rfl) dX1_init_14 (fun H locs hP hS => ?_)
  have hP : fb_P E (A ++ [.inr (3, [.ref (fw_z E + (a + 1)), .int (0 : Int32), .int 0, .null, .int 0]), .inl (fw_cy E 2, 60, .inl (fun _ => 0))]) H := hP
  refine lv_aload_n hx hb dX1_init_17 rfl (lv_at hl 0 rfl) ?_
  refine lv_iconst (v := (0 : Int32)) hx hb dX1_init_18 (by decide) ?_
  refine fb_put (ci := 3) (v := .int (0 : Int32)) (ty := .int) (C := RX1) (T := TX1) (N := 5) hx hb hU inU1 tyX1 tyX1_ok nmX1 hown hK ha hP hS 0 rfl rfl 2 (by decide) (hU (Cond.fieldLink RX1 19 "LaundryService$CommandText" "position" "I") mc_161) (fun _ h9 => h9) rfl (by decide +kernel) rfl rfl (Nat.le_of_ble_eq_true rfl) dX1_init_19 (fun H locs hP hS => ?_)
  have hP : fb_P E (A ++ [.inr (3, [.ref (fw_z E + (a + 1)), .int (0 : Int32), .int (0 : Int32), .null, .int 0]), .inl (fw_cy E 2, 60, .inl (fun _ => 0))]) H := hP
  refine lv_aload_n hx hb dX1_init_22 rfl (lv_at hl 0 rfl) ?_
  refine lv_bipush (v := (12 : Int32)) hx hb dX1_init_23 (by decide) ?_
  refine fb_anew (t0 := 4) (cT := fw_cy E 4) (N' := 12) (nn := 2) hx hb hown (hU (Cond.classLink RX1 22 "LaundryService$Command") mc_127) hO2 hK ha hP hS rfl rfl (by decide) (by decide) (by decide) (show (2 : Nat) ≤ 14 from by decide) (show (72 : Nat) ≤ 120 from by decide) dX1_init_25 (fun H hP hS => ?_)
  have hP : fb_P E (A ++ [.inr (3, [.ref (fw_z E + (a + 1)), .int (0 : Int32), .int (0 : Int32), .null, .int 0]), .inl (fw_cy E 2, 60, .inl (fun _ => 0)), .inl (fw_cy E 4, 12, .inr (.inr (.inr (.inr (fun _ => none)))))]) H := hP
  refine fb_putF (ci := 3) (v := .ref (fw_z E + (a + 2))) (ty := .array (.object "LaundryService$Command")) (C := RX1) (T := TX1) (N := 5) hx hb hU inU1 tyX1 tyX1_ok nmX1 hown hK ha hP hS 0 rfl rfl 3 (by decide) (hU (Cond.fieldLink RX1 24 "LaundryService$CommandText" "commands" "[LLaundryService$Command;") mc_163) (fun _ h9 => h9) rfl hin rfl (by decide +kernel) rfl rfl (Nat.le_of_ble_eq_true rfl) dX1_init_28 (fun H locs hP hS => ?_)
  have hP : fb_P E (A ++ [.inr (3, [.ref (fw_z E + (a + 1)), .int (0 : Int32), .int (0 : Int32), .ref (fw_z E + (a + 2)), .int 0]), .inl (fw_cy E 2, 60, .inl (fun _ => 0)), .inl (fw_cy E 4, 12, .inr (.inr (.inr (.inr (fun _ => none)))))]) H := hP
  refine lv_aload_n hx hb dX1_init_31 rfl (lv_at hl 0 rfl) ?_
  refine lv_iconst (v := (0 : Int32)) hx hb dX1_init_32 (by decide) ?_
  refine fb_put (ci := 3) (v := .int (0 : Int32)) (ty := .int) (C := RX1) (T := TX1) (N := 5) hx hb hU inU1 tyX1 tyX1_ok nmX1 hown hK ha hP hS 0 rfl rfl 4 (by decide) (hU (Cond.fieldLink RX1 28 "LaundryService$CommandText" "commandCount" "I") mc_165) (fun _ h9 => h9) rfl (by decide +kernel) rfl rfl (Nat.le_of_ble_eq_true rfl) dX1_init_33 (fun H locs hP hS => ?_)
  have hP : fb_P E (A ++ [.inr (3, [.ref (fw_z E + (a + 1)), .int (0 : Int32), .int (0 : Int32), .ref (fw_z E + (a + 2)), .int (0 : Int32)]), .inl (fw_cy E 2, 60, .inl (fun _ => 0)), .inl (fw_cy E 4, 12, .inr (.inr (.inr (.inr (fun _ => none)))))]) H := hP
  refine lv_iconst (v := (0 : Int32)) hx hb dX1_init_36 (by decide) ?_
  refine lv_istore_n (lv' := [(1, .int (0 : Int32)), (0, .ref (fw_z E + a))]) hx hb dX1_init_37 rfl hl (by decide) rfl (fun ls hl => ?_)
  rw [fb_up0 (fun q => fw_z E + (a + (3 + 1 * q)))] at hP
  have hP : fb_P E (A ++ fb_tw E a 0) H := hP
  have EN : ∀ (n i : Nat), n + i = 12 → ∀ (H : Heap) (locs : List Loc) (ls : Array Slot) (cells slots : Nat), fb_P E (A ++ fb_tw E a i) H → va_S (fw_A E) s.heap H locs → lv_has ls 2 [(1, .int (nI i)), (0, .ref (fw_z E + a))] → cells + 1 * n ≤ 14 → slots + 4 * n ≤ 120 → W p l e (headSpec (fw_ws yX1_init cX1_init 2 none) ({ frames := 2, cells := 14, slots := 120, locals := 42 } : Room)).room s m (([Value.ref (fw_z E + a)] : List Value).toArray) below meth c H locs cells slots (MQ below (fb_Q E (A ++ fb_ct E a)) (([Value.ref (fw_z E + a)] : List Value).toArray) s 14 120 (fw_A E)) (F0 m 38 ls []) := by
    intro n
    induction n with
    | zero =>
      intro i hi H locs ls cells slots hP hS hl hc hs
      obtain rfl : i = 12 := by omega
      refine lv_iload_n hx hb dX1_init_38 rfl (lv_at hl 0 rfl) ?_
      refine lv_aload_n hx hb dX1_init_39 rfl (lv_at hl 1 rfl) ?_
      refine va_get (D := fw_D E) (ci := 3) (v := .ref (fw_z E + (a + 2))) (C := RX1) (T := TX1) (N := 5) hx hb hU inU1 hown hK (fb_one hP ((fb_ix (k := 0) ha).trans rfl)) 0 rfl rfl 3 (by decide) (hU (Cond.fieldLink RX1 24 "LaundryService$CommandText" "commands" "[LLaundryService$Command;") mc_163) (fun _ h9 => h9) rfl dX1_init_40 ?_
      refine va_alen (D := fw_D E) (v := (12 : Int32)) hx hb hK (fb_one hP ((fb_ix (k := 2) ha).trans rfl)) 0 4 rfl rfl rfl dX1_init_43 ?_
      refine lv_icmp_ge (tgt := 66) hx hb dX1_init_44 (by decide) (fun c => ?_) (fun c => absurd c (by decide))
      refine W.widen (k := 14) (n := 120) (by omega) (by omega) ?_
      exact W.vret hx hb hr (fun t ht hW => ⟨rfl, by rw [ht]; exact hP, hS.F ht⟩) hS.2.2 dX1_init_66
    | succ n ih =>
      intro i hi H locs ls cells slots hP hS hl hc hs
      have hi9 : i < 12 := by omega
      refine lv_iload_n hx hb dX1_init_38 rfl (lv_at hl 0 rfl) ?_
      refine lv_aload_n hx hb dX1_init_39 rfl (lv_at hl 1 rfl) ?_
      refine va_get (D := fw_D E) (ci := 3) (v := .ref (fw_z E + (a + 2))) (C := RX1) (T := TX1) (N := 5) hx hb hU inU1 hown hK (fb_one hP ((fb_ix (k := 0) ha).trans rfl)) 0 rfl rfl 3 (by decide) (hU (Cond.fieldLink RX1 24 "LaundryService$CommandText" "commands" "[LLaundryService$Command;") mc_163) (fun _ h9 => h9) rfl dX1_init_40 ?_
      refine va_alen (D := fw_D E) (v := (12 : Int32)) hx hb hK (fb_one hP ((fb_ix (k := 2) ha).trans rfl)) 0 4 rfl rfl rfl dX1_init_43 ?_
      refine lv_icmp_ge (tgt := 66) hx hb dX1_init_44 (by decide) (fun c => absurd c (nI_ge hi9 (by decide))) (fun c => ?_)
      refine lv_aload_n hx hb dX1_init_47 rfl (lv_at hl 1 rfl) ?_
      refine va_get (D := fw_D E) (ci := 3) (v := .ref (fw_z E + (a + 2))) (C := RX1) (T := TX1) (N := 5) hx hb hU inU1 hown hK (fb_one hP ((fb_ix (k := 0) ha).trans rfl)) 0 rfl rfl 3 (by decide) (hU (Cond.fieldLink RX1 24 "LaundryService$CommandText" "commands" "[LLaundryService$Command;") mc_163) (fun _ h9 => h9) rfl dX1_init_48 ?_
      refine lv_iload_n hx hb dX1_init_51 rfl (lv_at hl 0 rfl) ?_
      refine fb_new (ci := 2) (fs := [.null, .int 0, .int 0, .int 0]) (C := RX0) (T := TX0) (N := 4) (n := (3 + 1 * i)) hx hb hU inU0 tyX0 tyX0_ok hown (hU (Cond.classLink RX1 22 RX0) mc_127) (hU (Cond.instantiable RX0 4) mc_129) (hU (Cond.initialized RX0) mc_5) hK ha hP hS fb_tw_len rfl (by decide +kernel) (show cells + 1 ≤ 14 from by omega) (show slots + 4 ≤ 120 from by omega) dX1_init_52 (fun H hP hS => ?_)
      refine lv_dup hx hb dX1_init_55 rfl ?_
      have hP9 : fb_P E ((A ++ fb_tw E a i) ++ [.inr (2, [.null, .int 0, .int 0, .int 0])]) H := by rw [List.append_assoc]; exact hP
      refine fb_ret (va_runIN (As := []) (rest := [.ref (fw_z E + (a + (3 + 1 * i))), .int (nI i), .ref (fw_z E + (a + 2))]) ⟨hx, hb, hml, hown, hU⟩ (kc_X0 l (A := A ++ fb_tw E a i) (a := a + (3 + 1 * i)) (by rw [List.length_append, ha]; rw [fb_tw_len])) ⟨va_cnB 0 hU (fw_gC mc_132) rfl rfl rfl (hSt.1.1 _ (List.mem_of_getElem? (i := 3) rfl)) (hU (Cond.initialized RX0) mc_5) (by decide +kernel) ⟨(Nat.le_of_ble_eq_true rfl), (Nat.le_of_ble_eq_true rfl)⟩, rfl, (hU (Cond.instanceMethod yX0_init) mc_131)⟩ ⟨fb_blind, fun U hU9 hW9 => ⟨rfl, fb_pre hK hP9 hSt hO1 hO2 hS U hU9 hW9⟩⟩ rfl rfl hl.1 rfl (lv_room (Nat.le_of_ble_eq_true rfl)) dX1_init_56 ⟨show cells + 1 + 0 ≤ 14 from by omega, show slots + 4 + 0 ≤ 120 from by omega⟩) hS (fun H locs hP hS => ?_)
      rw [List.append_assoc] at hP
      refine fb_aast (cA := fw_cy E 4) (r := (RX0, TX0, 4)) (n := 12) (vs := [.ref (fw_x E 0 5), .int 0, .int 0, .int 0]) hx hb hK ha hP hS 2 (3 + 1 * i) 4 2 rfl rfl (by rw [List.getElem?_append_right (by rw [fb_tw_len]; exact Nat.le_refl _), fb_tw_len, Nat.sub_self]; rfl) rfl (nI_in hi9 (by decide)) dX1_init_59 (fun H locs hP hS => ?_)
      rw [nI_clamp (show i < 2 ^ 31 by omega), fb_upS (fun q => fw_z E + (a + (3 + 1 * q))) i] at hP
      have hP : fb_P E (A ++ fb_tw E a (i + 1)) H := hP
      refine lv_iinc (v := (nI i + (1 : Int32))) (lv' := [(1, .int (nI i + (1 : Int32))), (0, .ref (fw_z E + a))]) hx hb dX1_init_60 hl (k := 0) rfl rfl (by decide) rfl (fun ls hl => ?_)
      rw [nI_1] at hl
      refine lv_goto (tgt := 38) hx hb dX1_init_63 (by decide) ?_
      exact ih (i + 1) (by omega) _ _ _ _ _ hP hS hl (by omega) (by omega)
  exact EN 12 0 rfl _ _ _ _ _ hP hS hl (by decide) (by decide)
