/-! the constructors, laid by wip/whole/lay4.py -/
theorem mc_133 : (Cond.methodLink RX0 1 Lib.objectInit) ∈ fw_U := fw_inU (i := 133) (by decide +kernel) (by decide +kernel)
theorem mc_37 : (Cond.instanceMethod Lib.objectInit) ∈ fw_U := fw_inU (i := 37) (by decide +kernel) (by decide +kernel)
theorem mc_38 : (Cond.code Lib.objectInit ⟨#[0xb1]⟩ 1 none) ∈ fw_U := fw_inU (i := 38) (by decide +kernel) (by decide +kernel)
theorem mc_134 : (Cond.fieldLink RX0 7 "LaundryService$Keyword" "RUN" "LLaundryService$Keyword;") ∈ fw_U := fw_inU (i := 134) (by decide +kernel) (by decide +kernel)
theorem mc_136 : (Cond.fieldLink RX0 13 "LaundryService$Command" "keyword" "LLaundryService$Keyword;") ∈ fw_U := fw_inU (i := 136) (by decide +kernel) (by decide +kernel)
theorem mc_139 : (Cond.fieldLink RX0 18 "LaundryService$Command" "first" "I") ∈ fw_U := fw_inU (i := 139) (by decide +kernel) (by decide +kernel)
theorem mc_142 : (Cond.fieldLink RX0 22 "LaundryService$Command" "second" "I") ∈ fw_U := fw_inU (i := 142) (by decide +kernel) (by decide +kernel)
theorem mc_145 : (Cond.fieldLink RX0 25 "LaundryService$Command" "third" "I") ∈ fw_U := fw_inU (i := 145) (by decide +kernel) (by decide +kernel)
theorem mc_183 : (Cond.methodLink RX5 3 Lib.objectInit) ∈ fw_U := fw_inU (i := 183) (by decide +kernel) (by decide +kernel)
theorem mc_157 : (Cond.arrayClass .char) ∈ fw_U := fw_inU (i := 157) (by decide +kernel) (by decide +kernel)
theorem mc_184 : (Cond.fieldLink RX5 9 "LaundryService$Output" "characters" "[C") ∈ fw_U := fw_inU (i := 184) (by decide +kernel) (by decide +kernel)
theorem mc_186 : (Cond.fieldLink RX5 15 "LaundryService$Output" "length" "I") ∈ fw_U := fw_inU (i := 186) (by decide +kernel) (by decide +kernel)
theorem mc_44 : (Cond.methodLink RX7 3 Lib.objectInit) ∈ fw_U := fw_inU (i := 44) (by decide +kernel) (by decide +kernel)
theorem mc_98 : (Cond.arrayClass .int) ∈ fw_U := fw_inU (i := 98) (by decide +kernel) (by decide +kernel)
theorem mc_45 : (Cond.fieldLink RX7 9 "LaundryService$State" "clients" "[I") ∈ fw_U := fw_inU (i := 45) (by decide +kernel) (by decide +kernel)
theorem mc_99 : (Cond.arrayClass .boolean) ∈ fw_U := fw_inU (i := 99) (by decide +kernel) (by decide +kernel)
theorem mc_48 : (Cond.fieldLink RX7 15 "LaundryService$State" "socks" "[Z") ∈ fw_U := fw_inU (i := 48) (by decide +kernel) (by decide +kernel)
theorem mc_52 : (Cond.fieldLink RX7 19 "LaundryService$State" "colours" "[I") ∈ fw_U := fw_inU (i := 52) (by decide +kernel) (by decide +kernel)
theorem mc_56 : (Cond.fieldLink RX7 22 "LaundryService$State" "stains" "[I") ∈ fw_U := fw_inU (i := 56) (by decide +kernel) (by decide +kernel)
theorem mc_59 : (Cond.fieldLink RX7 25 "LaundryService$State" "places" "[I") ∈ fw_U := fw_inU (i := 59) (by decide +kernel) (by decide +kernel)
theorem mc_62 : (Cond.fieldLink RX7 28 "LaundryService$State" "washes" "[I") ∈ fw_U := fw_inU (i := 62) (by decide +kernel) (by decide +kernel)
theorem mc_65 : (Cond.fieldLink RX7 31 "LaundryService$State" "garmentCount" "I") ∈ fw_U := fw_inU (i := 65) (by decide +kernel) (by decide +kernel)
theorem mc_69 : (Cond.fieldLink RX7 35 "LaundryService$State" "halves" "[I") ∈ fw_U := fw_inU (i := 69) (by decide +kernel) (by decide +kernel)
theorem mc_100 : (Cond.arrayClass .float) ∈ fw_U := fw_inU (i := 100) (by decide +kernel) (by decide +kernel)
theorem mc_72 : (Cond.fieldLink RX7 38 "LaundryService$State" "paid" "[F") ∈ fw_U := fw_inU (i := 72) (by decide +kernel) (by decide +kernel)
theorem mc_74 : (Cond.fieldLink RX7 42 "LaundryService$State" "runCount" "I") ∈ fw_U := fw_inU (i := 74) (by decide +kernel) (by decide +kernel)
theorem vp_in_d {i : Int32} {n : Nat} (h : fw_in i n = true) : vp_in i n := fw_in_e h
abbrev fb_st (E : fw_E) (a : Nat) : List va_E := [.inr (6, [.ref (fw_z E + (a + 1)), .ref (fw_z E + (a + 2)), .ref (fw_z E + (a + 3)), .ref (fw_z E + (a + 4)), .ref (fw_z E + (a + 5)), .ref (fw_z E + (a + 6)), .int 0, .ref (fw_z E + (a + 7)), .ref (fw_z E + (a + 8)), .int 0]), .inl (fw_cy E 0, 16, .inl (fun _ => 0)), .inl (fw_cy E 1, 16, .inl (fun _ => 0)), .inl (fw_cy E 0, 16, .inl (fun _ => 0)), .inl (fw_cy E 0, 16, .inl (fun _ => 0)), .inl (fw_cy E 0, 16, .inl (fun _ => 0)), .inl (fw_cy E 0, 16, .inl (fun _ => 0)), .inl (fw_cy E 0, 2, .inl (upd (upd (fun _ => 0) 0 80) 1 80)), .inl (fw_cy E 3, 4, .inr (.inr (.inl (fun _ => 0))))]
abbrev fb_cm (E : fw_E) (_ : Nat) : List va_E := [.inr (2, [.ref (fw_x E 0 5), .int 0, .int 0, .int 0])]
abbrev fb_op (E : fw_E) (a : Nat) : List va_E := [.inr (5, [.ref (fw_z E + (a + 1)), .int 0]), .inl (fw_cy E 2, 176, .inl (fun _ => 0))]
set_option maxHeartbeats 300000 in
set_option maxRecDepth 100000 in
theorem kc_X0 (l : Launch) {E : fw_E} {A : List va_E} {a : Nat} (ha : A.length = a) : Met l yX0_init (fw_ws yX0_init cX0_init 1 none) ({ frames := 1, cells := 0, slots := 0, locals := 21 } : Room) (va_Pc [.ref (fw_z E + a)] (fb_Pre E (A ++ [.inr (2, [.null, .int 0, .int 0, .int 0])]))) (fb_Q E (A ++ fb_cm E a)) 0 0 (fw_A E) := by
  refine Met.ofW (cc := cX0_init) (maxL := 1) (ret := none) (by decide) rfl ?_
  intro p e s m args below meth c s₁ B hml hv
  obtain ⟨ha9, hK, hP, hSt, hO1, hO2⟩ := hv
  have hx := B.exec
  have hb := B.bytes
  have hr := B.returns
  have hts := atoms_spec (ws := fw_ws yX0_init cX0_init 1 none) B.pre
  have hU : ∀ w ∈ fw_U, w.before args s = true := fun w hw => hts w (List.mem_cons_of_mem _ hw)
  have hown : s.vm.findClass RX0 = some m.cls := findClass_of_methodNamed B.named
  have hlocks := B.notSynchronized
  have hin : meth.name = "<init>" := (name_of_methodNamed B.named B.method).1
  have hS : va_S (fw_A E) s.heap s.heap [] := va_S.rf
  subst ha9
  have hl := lv_entry ([.ref (fw_z E + a)]) (n := 1) (Nat.le_of_ble_eq_true rfl)
  rw [lg_entry_eq]
  generalize (lg_sl ([.ref (fw_z E + a)]) ++ List.replicate (1 - (lg_sl ([.ref (fw_z E + a)])).length) Slot.unset).toArray = ls at hl ⊢
  have hl : lv_has ls 1 [(0, .ref (fw_z E + a))] := hl
  refine lv_aload_n hx hb dX0_init_0 rfl (lv_at hl 0 rfl) ?_
  refine W.objInit hx hb hown (hU (Cond.methodLink RX0 1 Lib.objectInit) mc_133) (hU (Cond.instanceMethod Lib.objectInit) mc_37) (hU (Cond.code Lib.objectInit ⟨#[0xb1]⟩ 1 none) mc_38) rfl (by rw [hml]; exact hl.1) rfl dX0_init_1 (Nat.le_of_ble_eq_true rfl) (Nat.le_of_ble_eq_true rfl) ?_
  refine W.eq (g2 := F0 m 4 ls []) rfl ?_
  refine lv_aload_n hx hb dX0_init_4 rfl (lv_at hl 0 rfl) ?_
  refine va_gets (v := .ref (fw_x E 0 5)) hx hb (hSt.2.1 _ (List.mem_of_getElem? (i := 10) rfl)) hS hown (hU (Cond.fieldLink RX0 7 "LaundryService$Keyword" "RUN" "LLaundryService$Keyword;") mc_134) (fun _ h9 => h9) dX0_init_5 ?_
  refine fb_put (ci := 2) (v := .ref (fw_x E 0 5)) (ty := .object "LaundryService$Keyword") (C := RX0) (T := TX0) (N := 4) hx hb hU inU0 tyX0 tyX0_ok nmX0 hown hK ha hP hS 0 rfl rfl 0 (by decide) (hU (Cond.fieldLink RX0 13 "LaundryService$Command" "keyword" "LLaundryService$Keyword;") mc_136) (fun _ h9 => h9) rfl (by decide +kernel) rfl rfl (Nat.le_of_ble_eq_true rfl) dX0_init_8 (fun H locs hP hS => ?_)
  have hP : fb_P E (A ++ [.inr (2, [.ref (fw_x E 0 5), .int 0, .int 0, .int 0])]) H := hP
  refine lv_aload_n hx hb dX0_init_11 rfl (lv_at hl 0 rfl) ?_
  refine lv_iconst (v := (0 : Int32)) hx hb dX0_init_12 (by decide) ?_
  refine fb_put (ci := 2) (v := .int (0 : Int32)) (ty := .int) (C := RX0) (T := TX0) (N := 4) hx hb hU inU0 tyX0 tyX0_ok nmX0 hown hK ha hP hS 0 rfl rfl 1 (by decide) (hU (Cond.fieldLink RX0 18 "LaundryService$Command" "first" "I") mc_139) (fun _ h9 => h9) rfl (by decide +kernel) rfl rfl (Nat.le_of_ble_eq_true rfl) dX0_init_13 (fun H locs hP hS => ?_)
  have hP : fb_P E (A ++ [.inr (2, [.ref (fw_x E 0 5), .int (0 : Int32), .int 0, .int 0])]) H := hP
  refine lv_aload_n hx hb dX0_init_16 rfl (lv_at hl 0 rfl) ?_
  refine lv_iconst (v := (0 : Int32)) hx hb dX0_init_17 (by decide) ?_
  refine fb_put (ci := 2) (v := .int (0 : Int32)) (ty := .int) (C := RX0) (T := TX0) (N := 4) hx hb hU inU0 tyX0 tyX0_ok nmX0 hown hK ha hP hS 0 rfl rfl 2 (by decide) (hU (Cond.fieldLink RX0 22 "LaundryService$Command" "second" "I") mc_142) (fun _ h9 => h9) rfl (by decide +kernel) rfl rfl (Nat.le_of_ble_eq_true rfl) dX0_init_18 (fun H locs hP hS => ?_)
  have hP : fb_P E (A ++ [.inr (2, [.ref (fw_x E 0 5), .int (0 : Int32), .int (0 : Int32), .int 0])]) H := hP
  refine lv_aload_n hx hb dX0_init_21 rfl (lv_at hl 0 rfl) ?_
  refine lv_iconst (v := (0 : Int32)) hx hb dX0_init_22 (by decide) ?_
  refine fb_put (ci := 2) (v := .int (0 : Int32)) (ty := .int) (C := RX0) (T := TX0) (N := 4) hx hb hU inU0 tyX0 tyX0_ok nmX0 hown hK ha hP hS 0 rfl rfl 3 (by decide) (hU (Cond.fieldLink RX0 25 "LaundryService$Command" "third" "I") mc_145) (fun _ h9 => h9) rfl (by decide +kernel) rfl rfl (Nat.le_of_ble_eq_true rfl) dX0_init_23 (fun H locs hP hS => ?_)
  have hP : fb_P E (A ++ [.inr (2, [.ref (fw_x E 0 5), .int (0 : Int32), .int (0 : Int32), .int (0 : Int32)])]) H := hP
  have hP : fb_P E (A ++ fb_cm E a) H := hP
  refine W.widen (k := 0) (n := 0) (show (0 : Nat) ≤ 0 from by decide) (show (0 : Nat) ≤ 0 from by decide) ?_
  exact W.vret hx hb hr (fun t ht hW => ⟨rfl, by rw [ht]; exact hP, hS.F ht⟩) hS.2.2 dX0_init_26
set_option maxHeartbeats 300000 in
set_option maxRecDepth 100000 in
theorem kc_X5 (l : Launch) {E : fw_E} {A : List va_E} {a : Nat} (ha : A.length = a) : Met l yX5_init (fw_ws yX5_init cX5_init 1 none) ({ frames := 1, cells := 1, slots := 176, locals := 21 } : Room) (va_Pc [.ref (fw_z E + a)] (fb_Pre E (A ++ [.inr (5, [.null, .int 0])]))) (fb_Q E (A ++ fb_op E a)) 1 176 (fw_A E) := by
  refine Met.ofW (cc := cX5_init) (maxL := 1) (ret := none) (by decide) rfl ?_
  intro p e s m args below meth c s₁ B hml hv
  obtain ⟨ha9, hK, hP, hSt, hO1, hO2⟩ := hv
  have hx := B.exec
  have hb := B.bytes
  have hr := B.returns
  have hts := atoms_spec (ws := fw_ws yX5_init cX5_init 1 none) B.pre
  have hU : ∀ w ∈ fw_U, w.before args s = true := fun w hw => hts w (List.mem_cons_of_mem _ hw)
  have hown : s.vm.findClass RX5 = some m.cls := findClass_of_methodNamed B.named
  have hlocks := B.notSynchronized
  have hin : meth.name = "<init>" := (name_of_methodNamed B.named B.method).1
  have hS : va_S (fw_A E) s.heap s.heap [] := va_S.rf
  subst ha9
  have hl := lv_entry ([.ref (fw_z E + a)]) (n := 1) (Nat.le_of_ble_eq_true rfl)
  rw [lg_entry_eq]
  generalize (lg_sl ([.ref (fw_z E + a)]) ++ List.replicate (1 - (lg_sl ([.ref (fw_z E + a)])).length) Slot.unset).toArray = ls at hl ⊢
  have hl : lv_has ls 1 [(0, .ref (fw_z E + a))] := hl
  refine lv_aload_n hx hb dX5_init_0 rfl (lv_at hl 0 rfl) ?_
  refine W.objInit hx hb hown (hU (Cond.methodLink RX5 3 Lib.objectInit) mc_183) (hU (Cond.instanceMethod Lib.objectInit) mc_37) (hU (Cond.code Lib.objectInit ⟨#[0xb1]⟩ 1 none) mc_38) rfl (by rw [hml]; exact hl.1) rfl dX5_init_1 (Nat.le_of_ble_eq_true rfl) (Nat.le_of_ble_eq_true rfl) ?_
  refine W.eq (g2 := F0 m 4 ls []) rfl ?_
  refine lv_aload_n hx hb dX5_init_4 rfl (lv_at hl 0 rfl) ?_
  refine lv_sipush (v := (176 : Int32)) hx hb dX5_init_5 (by decide) ?_
  refine fb_newa (atype := .char) (ty := .char) (t0 := 2) (cT := fw_cy E 2) (a0 := (176, .inl (fun _ => 0))) (N' := 176) (nn := 1) hx hb (hU (Cond.arrayClass .char) mc_157) rfl hK ha hP hS rfl rfl (fun h => h) (fun _ => by first | rw [vp_cell_i]; rfl | rw [vp_cell_f]; rfl) (by decide) (by decide) (by decide) (show (1 : Nat) ≤ 1 from by decide) (show (176 : Nat) ≤ 176 from by decide) dX5_init_8 (fun H hP hS => ?_)
  have hP : fb_P E (A ++ [.inr (5, [.null, .int 0]), .inl (fw_cy E 2, 176, .inl (fun _ => 0))]) H := hP
  refine fb_putF (ci := 5) (v := .ref (fw_z E + (a + 1))) (ty := .array .char) (C := RX5) (T := TX5) (N := 2) hx hb hU inU5 tyX5 tyX5_ok nmX5 hown hK ha hP hS 0 rfl rfl 0 (by decide) (hU (Cond.fieldLink RX5 9 "LaundryService$Output" "characters" "[C") mc_184) (fun _ h9 => h9) rfl hin rfl (by decide +kernel) rfl rfl (Nat.le_of_ble_eq_true rfl) dX5_init_10 (fun H locs hP hS => ?_)
  have hP : fb_P E (A ++ [.inr (5, [.ref (fw_z E + (a + 1)), .int 0]), .inl (fw_cy E 2, 176, .inl (fun _ => 0))]) H := hP
  refine lv_aload_n hx hb dX5_init_13 rfl (lv_at hl 0 rfl) ?_
  refine lv_iconst (v := (0 : Int32)) hx hb dX5_init_14 (by decide) ?_
  refine fb_put (ci := 5) (v := .int (0 : Int32)) (ty := .int) (C := RX5) (T := TX5) (N := 2) hx hb hU inU5 tyX5 tyX5_ok nmX5 hown hK ha hP hS 0 rfl rfl 1 (by decide) (hU (Cond.fieldLink RX5 15 "LaundryService$Output" "length" "I") mc_186) (fun _ h9 => h9) rfl (by decide +kernel) rfl rfl (Nat.le_of_ble_eq_true rfl) dX5_init_15 (fun H locs hP hS => ?_)
  have hP : fb_P E (A ++ [.inr (5, [.ref (fw_z E + (a + 1)), .int (0 : Int32)]), .inl (fw_cy E 2, 176, .inl (fun _ => 0))]) H := hP
  have hP : fb_P E (A ++ fb_op E a) H := hP
  refine W.widen (k := 1) (n := 176) (show (1 : Nat) ≤ 1 from by decide) (show (176 : Nat) ≤ 176 from by decide) ?_
  exact W.vret hx hb hr (fun t ht hW => ⟨rfl, by rw [ht]; exact hP, hS.F ht⟩) hS.2.2 dX5_init_18
set_option maxHeartbeats 300000 in
set_option maxRecDepth 100000 in
theorem kc_X7 (l : Launch) {E : fw_E} {A : List va_E} {a : Nat} (ha : A.length = a) : Met l yX7_init (fw_ws yX7_init cX7_init 2 none) ({ frames := 1, cells := 8, slots := 102, locals := 21 } : Room) (va_Pc [.ref (fw_z E + a)] (fb_Pre E (A ++ [.inr (6, [.null, .null, .null, .null, .null, .null, .int 0, .null, .null, .int 0])]))) (fb_Q E (A ++ fb_st E a)) 8 102 (fw_A E) := by
  refine Met.ofW (cc := cX7_init) (maxL := 2) (ret := none) (by decide) rfl ?_
  intro p e s m args below meth c s₁ B hml hv
  obtain ⟨ha9, hK, hP, hSt, hO1, hO2⟩ := hv
  have hx := B.exec
  have hb := B.bytes
  have hr := B.returns
  have hts := atoms_spec (ws := fw_ws yX7_init cX7_init 2 none) B.pre
  have hU : ∀ w ∈ fw_U, w.before args s = true := fun w hw => hts w (List.mem_cons_of_mem _ hw)
  have hown : s.vm.findClass RX7 = some m.cls := findClass_of_methodNamed B.named
  have hlocks := B.notSynchronized
  have hin : meth.name = "<init>" := (name_of_methodNamed B.named B.method).1
  have hS : va_S (fw_A E) s.heap s.heap [] := va_S.rf
  subst ha9
  have hl := lv_entry ([.ref (fw_z E + a)]) (n := 2) (Nat.le_of_ble_eq_true rfl)
  rw [lg_entry_eq]
  generalize (lg_sl ([.ref (fw_z E + a)]) ++ List.replicate (2 - (lg_sl ([.ref (fw_z E + a)])).length) Slot.unset).toArray = ls at hl ⊢
  have hl : lv_has ls 2 [(0, .ref (fw_z E + a))] := hl
  refine lv_aload_n hx hb dX7_init_0 rfl (lv_at hl 0 rfl) ?_
  refine W.objInit hx hb hown (hU (Cond.methodLink RX7 3 Lib.objectInit) mc_44) (hU (Cond.instanceMethod Lib.objectInit) mc_37) (hU (Cond.code Lib.objectInit ⟨#[0xb1]⟩ 1 none) mc_38) rfl (by rw [hml]; exact hl.1) rfl dX7_init_1 (Nat.le_of_ble_eq_true rfl) (Nat.le_of_ble_eq_true rfl) ?_
  refine W.eq (g2 := F0 m 4 ls []) rfl ?_
  refine lv_aload_n hx hb dX7_init_4 rfl (lv_at hl 0 rfl) ?_
  refine lv_bipush (v := (16 : Int32)) hx hb dX7_init_5 (by decide) ?_
  refine fb_newa (atype := .int) (ty := .int) (t0 := 0) (cT := fw_cy E 0) (a0 := (16, .inl (fun _ => 0))) (N' := 16) (nn := 1) hx hb (hU (Cond.arrayClass .int) mc_98) rfl hK ha hP hS rfl rfl (fun h => h) (fun _ => by first | rw [vp_cell_i]; rfl | rw [vp_cell_f]; rfl) (by decide) (by decide) (by decide) (show (1 : Nat) ≤ 8 from by decide) (show (16 : Nat) ≤ 102 from by decide) dX7_init_7 (fun H hP hS => ?_)
  have hP : fb_P E (A ++ [.inr (6, [.null, .null, .null, .null, .null, .null, .int 0, .null, .null, .int 0]), .inl (fw_cy E 0, 16, .inl (fun _ => 0))]) H := hP
  refine fb_putF (ci := 6) (v := .ref (fw_z E + (a + 1))) (ty := .array .int) (C := RX7) (T := TX7) (N := 10) hx hb hU inU7 tyX7 tyX7_ok nmX7 hown hK ha hP hS 0 rfl rfl 0 (by decide) (hU (Cond.fieldLink RX7 9 "LaundryService$State" "clients" "[I") mc_45) (fun _ h9 => h9) rfl hin rfl (by decide +kernel) rfl rfl (Nat.le_of_ble_eq_true rfl) dX7_init_9 (fun H locs hP hS => ?_)
  have hP : fb_P E (A ++ [.inr (6, [.ref (fw_z E + (a + 1)), .null, .null, .null, .null, .null, .int 0, .null, .null, .int 0]), .inl (fw_cy E 0, 16, .inl (fun _ => 0))]) H := hP
  refine lv_aload_n hx hb dX7_init_12 rfl (lv_at hl 0 rfl) ?_
  refine lv_bipush (v := (16 : Int32)) hx hb dX7_init_13 (by decide) ?_
  refine fb_newa (atype := .boolean) (ty := .boolean) (t0 := 1) (cT := fw_cy E 1) (a0 := (16, .inl (fun _ => 0))) (N' := 16) (nn := 2) hx hb (hU (Cond.arrayClass .boolean) mc_99) rfl hK ha hP hS rfl rfl (fun h => h) (fun _ => by first | rw [vp_cell_i]; rfl | rw [vp_cell_f]; rfl) (by decide) (by decide) (by decide) (show (2 : Nat) ≤ 8 from by decide) (show (32 : Nat) ≤ 102 from by decide) dX7_init_15 (fun H hP hS => ?_)
  have hP : fb_P E (A ++ [.inr (6, [.ref (fw_z E + (a + 1)), .null, .null, .null, .null, .null, .int 0, .null, .null, .int 0]), .inl (fw_cy E 0, 16, .inl (fun _ => 0)), .inl (fw_cy E 1, 16, .inl (fun _ => 0))]) H := hP
  refine fb_putF (ci := 6) (v := .ref (fw_z E + (a + 2))) (ty := .array .boolean) (C := RX7) (T := TX7) (N := 10) hx hb hU inU7 tyX7 tyX7_ok nmX7 hown hK ha hP hS 0 rfl rfl 1 (by decide) (hU (Cond.fieldLink RX7 15 "LaundryService$State" "socks" "[Z") mc_48) (fun _ h9 => h9) rfl hin rfl (by decide +kernel) rfl rfl (Nat.le_of_ble_eq_true rfl) dX7_init_17 (fun H locs hP hS => ?_)
  have hP : fb_P E (A ++ [.inr (6, [.ref (fw_z E + (a + 1)), .ref (fw_z E + (a + 2)), .null, .null, .null, .null, .int 0, .null, .null, .int 0]), .inl (fw_cy E 0, 16, .inl (fun _ => 0)), .inl (fw_cy E 1, 16, .inl (fun _ => 0))]) H := hP
  refine lv_aload_n hx hb dX7_init_20 rfl (lv_at hl 0 rfl) ?_
  refine lv_bipush (v := (16 : Int32)) hx hb dX7_init_21 (by decide) ?_
  refine fb_newa (atype := .int) (ty := .int) (t0 := 0) (cT := fw_cy E 0) (a0 := (16, .inl (fun _ => 0))) (N' := 16) (nn := 3) hx hb (hU (Cond.arrayClass .int) mc_98) rfl hK ha hP hS rfl rfl (fun h => h) (fun _ => by first | rw [vp_cell_i]; rfl | rw [vp_cell_f]; rfl) (by decide) (by decide) (by decide) (show (3 : Nat) ≤ 8 from by decide) (show (48 : Nat) ≤ 102 from by decide) dX7_init_23 (fun H hP hS => ?_)
  have hP : fb_P E (A ++ [.inr (6, [.ref (fw_z E + (a + 1)), .ref (fw_z E + (a + 2)), .null, .null, .null, .null, .int 0, .null, .null, .int 0]), .inl (fw_cy E 0, 16, .inl (fun _ => 0)), .inl (fw_cy E 1, 16, .inl (fun _ => 0)), .inl (fw_cy E 0, 16, .inl (fun _ => 0))]) H := hP
  refine fb_putF (ci := 6) (v := .ref (fw_z E + (a + 3))) (ty := .array .int) (C := RX7) (T := TX7) (N := 10) hx hb hU inU7 tyX7 tyX7_ok nmX7 hown hK ha hP hS 0 rfl rfl 2 (by decide) (hU (Cond.fieldLink RX7 19 "LaundryService$State" "colours" "[I") mc_52) (fun _ h9 => h9) rfl hin rfl (by decide +kernel) rfl rfl (Nat.le_of_ble_eq_true rfl) dX7_init_25 (fun H locs hP hS => ?_)
  have hP : fb_P E (A ++ [.inr (6, [.ref (fw_z E + (a + 1)), .ref (fw_z E + (a + 2)), .ref (fw_z E + (a + 3)), .null, .null, .null, .int 0, .null, .null, .int 0]), .inl (fw_cy E 0, 16, .inl (fun _ => 0)), .inl (fw_cy E 1, 16, .inl (fun _ => 0)), .inl (fw_cy E 0, 16, .inl (fun _ => 0))]) H := hP
  refine lv_aload_n hx hb dX7_init_28 rfl (lv_at hl 0 rfl) ?_
  refine lv_bipush (v := (16 : Int32)) hx hb dX7_init_29 (by decide) ?_
  refine fb_newa (atype := .int) (ty := .int) (t0 := 0) (cT := fw_cy E 0) (a0 := (16, .inl (fun _ => 0))) (N' := 16) (nn := 4) hx hb (hU (Cond.arrayClass .int) mc_98) rfl hK ha hP hS rfl rfl (fun h => h) (fun _ => by first | rw [vp_cell_i]; rfl | rw [vp_cell_f]; rfl) (by decide) (by decide) (by decide) (show (4 : Nat) ≤ 8 from by decide) (show (64 : Nat) ≤ 102 from by decide) dX7_init_31 (fun H hP hS => ?_)
  have hP : fb_P E (A ++ [.inr (6, [.ref (fw_z E + (a + 1)), .ref (fw_z E + (a + 2)), .ref (fw_z E + (a + 3)), .null, .null, .null, .int 0, .null, .null, .int 0]), .inl (fw_cy E 0, 16, .inl (fun _ => 0)), .inl (fw_cy E 1, 16, .inl (fun _ => 0)), .inl (fw_cy E 0, 16, .inl (fun _ => 0)), .inl (fw_cy E 0, 16, .inl (fun _ => 0))]) H := hP
  refine fb_putF (ci := 6) (v := .ref (fw_z E + (a + 4))) (ty := .array .int) (C := RX7) (T := TX7) (N := 10) hx hb hU inU7 tyX7 tyX7_ok nmX7 hown hK ha hP hS 0 rfl rfl 3 (by decide) (hU (Cond.fieldLink RX7 22 "LaundryService$State" "stains" "[I") mc_56) (fun _ h9 => h9) rfl hin rfl (by decide +kernel) rfl rfl (Nat.le_of_ble_eq_true rfl) dX7_init_33 (fun H locs hP hS => ?_)
  have hP : fb_P E (A ++ [.inr (6, [.ref (fw_z E + (a + 1)), .ref (fw_z E + (a + 2)), .ref (fw_z E + (a + 3)), .ref (fw_z E + (a + 4)), .null, .null, .int 0, .null, .null, .int 0]), .inl (fw_cy E 0, 16, .inl (fun _ => 0)), .inl (fw_cy E 1, 16, .inl (fun _ => 0)), .inl (fw_cy E 0, 16, .inl (fun _ => 0)), .inl (fw_cy E 0, 16, .inl (fun _ => 0))]) H := hP
  refine lv_aload_n hx hb dX7_init_36 rfl (lv_at hl 0 rfl) ?_
  refine lv_bipush (v := (16 : Int32)) hx hb dX7_init_37 (by decide) ?_
  refine fb_newa (atype := .int) (ty := .int) (t0 := 0) (cT := fw_cy E 0) (a0 := (16, .inl (fun _ => 0))) (N' := 16) (nn := 5) hx hb (hU (Cond.arrayClass .int) mc_98) rfl hK ha hP hS rfl rfl (fun h => h) (fun _ => by first | rw [vp_cell_i]; rfl | rw [vp_cell_f]; rfl) (by decide) (by decide) (by decide) (show (5 : Nat) ≤ 8 from by decide) (show (80 : Nat) ≤ 102 from by decide) dX7_init_39 (fun H hP hS => ?_)
  have hP : fb_P E (A ++ [.inr (6, [.ref (fw_z E + (a + 1)), .ref (fw_z E + (a + 2)), .ref (fw_z E + (a + 3)), .ref (fw_z E + (a + 4)), .null, .null, .int 0, .null, .null, .int 0]), .inl (fw_cy E 0, 16, .inl (fun _ => 0)), .inl (fw_cy E 1, 16, .inl (fun _ => 0)), .inl (fw_cy E 0, 16, .inl (fun _ => 0)), .inl (fw_cy E 0, 16, .inl (fun _ => 0)), .inl (fw_cy E 0, 16, .inl (fun _ => 0))]) H := hP
  refine fb_putF (ci := 6) (v := .ref (fw_z E + (a + 5))) (ty := .array .int) (C := RX7) (T := TX7) (N := 10) hx hb hU inU7 tyX7 tyX7_ok nmX7 hown hK ha hP hS 0 rfl rfl 4 (by decide) (hU (Cond.fieldLink RX7 25 "LaundryService$State" "places" "[I") mc_59) (fun _ h9 => h9) rfl hin rfl (by decide +kernel) rfl rfl (Nat.le_of_ble_eq_true rfl) dX7_init_41 (fun H locs hP hS => ?_)
  have hP : fb_P E (A ++ [.inr (6, [.ref (fw_z E + (a + 1)), .ref (fw_z E + (a + 2)), .ref (fw_z E + (a + 3)), .ref (fw_z E + (a + 4)), .ref (fw_z E + (a + 5)), .null, .int 0, .null, .null, .int 0]), .inl (fw_cy E 0, 16, .inl (fun _ => 0)), .inl (fw_cy E 1, 16, .inl (fun _ => 0)), .inl (fw_cy E 0, 16, .inl (fun _ => 0)), .inl (fw_cy E 0, 16, .inl (fun _ => 0)), .inl (fw_cy E 0, 16, .inl (fun _ => 0))]) H := hP
  refine lv_aload_n hx hb dX7_init_44 rfl (lv_at hl 0 rfl) ?_
  refine lv_bipush (v := (16 : Int32)) hx hb dX7_init_45 (by decide) ?_
  refine fb_newa (atype := .int) (ty := .int) (t0 := 0) (cT := fw_cy E 0) (a0 := (16, .inl (fun _ => 0))) (N' := 16) (nn := 6) hx hb (hU (Cond.arrayClass .int) mc_98) rfl hK ha hP hS rfl rfl (fun h => h) (fun _ => by first | rw [vp_cell_i]; rfl | rw [vp_cell_f]; rfl) (by decide) (by decide) (by decide) (show (6 : Nat) ≤ 8 from by decide) (show (96 : Nat) ≤ 102 from by decide) dX7_init_47 (fun H hP hS => ?_)
  have hP : fb_P E (A ++ [.inr (6, [.ref (fw_z E + (a + 1)), .ref (fw_z E + (a + 2)), .ref (fw_z E + (a + 3)), .ref (fw_z E + (a + 4)), .ref (fw_z E + (a + 5)), .null, .int 0, .null, .null, .int 0]), .inl (fw_cy E 0, 16, .inl (fun _ => 0)), .inl (fw_cy E 1, 16, .inl (fun _ => 0)), .inl (fw_cy E 0, 16, .inl (fun _ => 0)), .inl (fw_cy E 0, 16, .inl (fun _ => 0)), .inl (fw_cy E 0, 16, .inl (fun _ => 0)), .inl (fw_cy E 0, 16, .inl (fun _ => 0))]) H := hP
  refine fb_putF (ci := 6) (v := .ref (fw_z E + (a + 6))) (ty := .array .int) (C := RX7) (T := TX7) (N := 10) hx hb hU inU7 tyX7 tyX7_ok nmX7 hown hK ha hP hS 0 rfl rfl 5 (by decide) (hU (Cond.fieldLink RX7 28 "LaundryService$State" "washes" "[I") mc_62) (fun _ h9 => h9) rfl hin rfl (by decide +kernel) rfl rfl (Nat.le_of_ble_eq_true rfl) dX7_init_49 (fun H locs hP hS => ?_)
  have hP : fb_P E (A ++ [.inr (6, [.ref (fw_z E + (a + 1)), .ref (fw_z E + (a + 2)), .ref (fw_z E + (a + 3)), .ref (fw_z E + (a + 4)), .ref (fw_z E + (a + 5)), .ref (fw_z E + (a + 6)), .int 0, .null, .null, .int 0]), .inl (fw_cy E 0, 16, .inl (fun _ => 0)), .inl (fw_cy E 1, 16, .inl (fun _ => 0)), .inl (fw_cy E 0, 16, .inl (fun _ => 0)), .inl (fw_cy E 0, 16, .inl (fun _ => 0)), .inl (fw_cy E 0, 16, .inl (fun _ => 0)), .inl (fw_cy E 0, 16, .inl (fun _ => 0))]) H := hP
  refine lv_aload_n hx hb dX7_init_52 rfl (lv_at hl 0 rfl) ?_
  refine lv_iconst (v := (0 : Int32)) hx hb dX7_init_53 (by decide) ?_
  refine fb_put (ci := 6) (v := .int (0 : Int32)) (ty := .int) (C := RX7) (T := TX7) (N := 10) hx hb hU inU7 tyX7 tyX7_ok nmX7 hown hK ha hP hS 0 rfl rfl 6 (by decide) (hU (Cond.fieldLink RX7 31 "LaundryService$State" "garmentCount" "I") mc_65) (fun _ h9 => h9) rfl (by decide +kernel) rfl rfl (Nat.le_of_ble_eq_true rfl) dX7_init_54 (fun H locs hP hS => ?_)
  have hP : fb_P E (A ++ [.inr (6, [.ref (fw_z E + (a + 1)), .ref (fw_z E + (a + 2)), .ref (fw_z E + (a + 3)), .ref (fw_z E + (a + 4)), .ref (fw_z E + (a + 5)), .ref (fw_z E + (a + 6)), .int (0 : Int32), .null, .null, .int 0]), .inl (fw_cy E 0, 16, .inl (fun _ => 0)), .inl (fw_cy E 1, 16, .inl (fun _ => 0)), .inl (fw_cy E 0, 16, .inl (fun _ => 0)), .inl (fw_cy E 0, 16, .inl (fun _ => 0)), .inl (fw_cy E 0, 16, .inl (fun _ => 0)), .inl (fw_cy E 0, 16, .inl (fun _ => 0))]) H := hP
  refine lv_aload_n hx hb dX7_init_57 rfl (lv_at hl 0 rfl) ?_
  refine lv_iconst (v := (2 : Int32)) hx hb dX7_init_58 (by decide) ?_
  refine fb_newa (atype := .int) (ty := .int) (t0 := 0) (cT := fw_cy E 0) (a0 := (2, .inl (fun _ => 0))) (N' := 2) (nn := 7) hx hb (hU (Cond.arrayClass .int) mc_98) rfl hK ha hP hS rfl rfl (fun h => h) (fun _ => by first | rw [vp_cell_i]; rfl | rw [vp_cell_f]; rfl) (by decide) (by decide) (by decide) (show (7 : Nat) ≤ 8 from by decide) (show (98 : Nat) ≤ 102 from by decide) dX7_init_59 (fun H hP hS => ?_)
  have hP : fb_P E (A ++ [.inr (6, [.ref (fw_z E + (a + 1)), .ref (fw_z E + (a + 2)), .ref (fw_z E + (a + 3)), .ref (fw_z E + (a + 4)), .ref (fw_z E + (a + 5)), .ref (fw_z E + (a + 6)), .int (0 : Int32), .null, .null, .int 0]), .inl (fw_cy E 0, 16, .inl (fun _ => 0)), .inl (fw_cy E 1, 16, .inl (fun _ => 0)), .inl (fw_cy E 0, 16, .inl (fun _ => 0)), .inl (fw_cy E 0, 16, .inl (fun _ => 0)), .inl (fw_cy E 0, 16, .inl (fun _ => 0)), .inl (fw_cy E 0, 16, .inl (fun _ => 0)), .inl (fw_cy E 0, 2, .inl (fun _ => 0))]) H := hP
  refine fb_putF (ci := 6) (v := .ref (fw_z E + (a + 7))) (ty := .array .int) (C := RX7) (T := TX7) (N := 10) hx hb hU inU7 tyX7 tyX7_ok nmX7 hown hK ha hP hS 0 rfl rfl 7 (by decide) (hU (Cond.fieldLink RX7 35 "LaundryService$State" "halves" "[I") mc_69) (fun _ h9 => h9) rfl hin rfl (by decide +kernel) rfl rfl (Nat.le_of_ble_eq_true rfl) dX7_init_61 (fun H locs hP hS => ?_)
  have hP : fb_P E (A ++ [.inr (6, [.ref (fw_z E + (a + 1)), .ref (fw_z E + (a + 2)), .ref (fw_z E + (a + 3)), .ref (fw_z E + (a + 4)), .ref (fw_z E + (a + 5)), .ref (fw_z E + (a + 6)), .int (0 : Int32), .ref (fw_z E + (a + 7)), .null, .int 0]), .inl (fw_cy E 0, 16, .inl (fun _ => 0)), .inl (fw_cy E 1, 16, .inl (fun _ => 0)), .inl (fw_cy E 0, 16, .inl (fun _ => 0)), .inl (fw_cy E 0, 16, .inl (fun _ => 0)), .inl (fw_cy E 0, 16, .inl (fun _ => 0)), .inl (fw_cy E 0, 16, .inl (fun _ => 0)), .inl (fw_cy E 0, 2, .inl (fun _ => 0))]) H := hP
  refine lv_aload_n hx hb dX7_init_64 rfl (lv_at hl 0 rfl) ?_
  refine lv_iconst (v := (4 : Int32)) hx hb dX7_init_65 (by decide) ?_
  refine fb_newa (atype := .float) (ty := .float) (t0 := 3) (cT := fw_cy E 3) (a0 := (4, .inr (.inr (.inl (fun _ => 0))))) (N' := 4) (nn := 8) hx hb (hU (Cond.arrayClass .float) mc_100) rfl hK ha hP hS rfl rfl (fun h => h) (fun _ => by first | rw [vp_cell_i]; rfl | rw [vp_cell_f]; rfl) (by decide) (by decide) (by decide) (show (8 : Nat) ≤ 8 from by decide) (show (102 : Nat) ≤ 102 from by decide) dX7_init_66 (fun H hP hS => ?_)
  have hP : fb_P E (A ++ [.inr (6, [.ref (fw_z E + (a + 1)), .ref (fw_z E + (a + 2)), .ref (fw_z E + (a + 3)), .ref (fw_z E + (a + 4)), .ref (fw_z E + (a + 5)), .ref (fw_z E + (a + 6)), .int (0 : Int32), .ref (fw_z E + (a + 7)), .null, .int 0]), .inl (fw_cy E 0, 16, .inl (fun _ => 0)), .inl (fw_cy E 1, 16, .inl (fun _ => 0)), .inl (fw_cy E 0, 16, .inl (fun _ => 0)), .inl (fw_cy E 0, 16, .inl (fun _ => 0)), .inl (fw_cy E 0, 16, .inl (fun _ => 0)), .inl (fw_cy E 0, 16, .inl (fun _ => 0)), .inl (fw_cy E 0, 2, .inl (fun _ => 0)), .inl (fw_cy E 3, 4, .inr (.inr (.inl (fun _ => 0))))]) H := hP
  refine fb_putF (ci := 6) (v := .ref (fw_z E + (a + 8))) (ty := .array .float) (C := RX7) (T := TX7) (N := 10) hx hb hU inU7 tyX7 tyX7_ok nmX7 hown hK ha hP hS 0 rfl rfl 8 (by decide) (hU (Cond.fieldLink RX7 38 "LaundryService$State" "paid" "[F") mc_72) (fun _ h9 => h9) rfl hin rfl (by decide +kernel) rfl rfl (Nat.le_of_ble_eq_true rfl) dX7_init_68 (fun H locs hP hS => ?_)
  have hP : fb_P E (A ++ [.inr (6, [.ref (fw_z E + (a + 1)), .ref (fw_z E + (a + 2)), .ref (fw_z E + (a + 3)), .ref (fw_z E + (a + 4)), .ref (fw_z E + (a + 5)), .ref (fw_z E + (a + 6)), .int (0 : Int32), .ref (fw_z E + (a + 7)), .ref (fw_z E + (a + 8)), .int 0]), .inl (fw_cy E 0, 16, .inl (fun _ => 0)), .inl (fw_cy E 1, 16, .inl (fun _ => 0)), .inl (fw_cy E 0, 16, .inl (fun _ => 0)), .inl (fw_cy E 0, 16, .inl (fun _ => 0)), .inl (fw_cy E 0, 16, .inl (fun _ => 0)), .inl (fw_cy E 0, 16, .inl (fun _ => 0)), .inl (fw_cy E 0, 2, .inl (fun _ => 0)), .inl (fw_cy E 3, 4, .inr (.inr (.inl (fun _ => 0))))]) H := hP
  refine lv_aload_n hx hb dX7_init_71 rfl (lv_at hl 0 rfl) ?_
  refine lv_iconst (v := (0 : Int32)) hx hb dX7_init_72 (by decide) ?_
  refine fb_put (ci := 6) (v := .int (0 : Int32)) (ty := .int) (C := RX7) (T := TX7) (N := 10) hx hb hU inU7 tyX7 tyX7_ok nmX7 hown hK ha hP hS 0 rfl rfl 9 (by decide) (hU (Cond.fieldLink RX7 42 "LaundryService$State" "runCount" "I") mc_74) (fun _ h9 => h9) rfl (by decide +kernel) rfl rfl (Nat.le_of_ble_eq_true rfl) dX7_init_73 (fun H locs hP hS => ?_)
  have hP : fb_P E (A ++ [.inr (6, [.ref (fw_z E + (a + 1)), .ref (fw_z E + (a + 2)), .ref (fw_z E + (a + 3)), .ref (fw_z E + (a + 4)), .ref (fw_z E + (a + 5)), .ref (fw_z E + (a + 6)), .int (0 : Int32), .ref (fw_z E + (a + 7)), .ref (fw_z E + (a + 8)), .int (0 : Int32)]), .inl (fw_cy E 0, 16, .inl (fun _ => 0)), .inl (fw_cy E 1, 16, .inl (fun _ => 0)), .inl (fw_cy E 0, 16, .inl (fun _ => 0)), .inl (fw_cy E 0, 16, .inl (fun _ => 0)), .inl (fw_cy E 0, 16, .inl (fun _ => 0)), .inl (fw_cy E 0, 16, .inl (fun _ => 0)), .inl (fw_cy E 0, 2, .inl (fun _ => 0)), .inl (fw_cy E 3, 4, .inr (.inr (.inl (fun _ => 0))))]) H := hP
  refine lv_iconst (v := (0 : Int32)) hx hb dX7_init_76 (by decide) ?_
  refine lv_istore_n (lv' := [(1, .int (0 : Int32)), (0, .ref (fw_z E + a))]) hx hb dX7_init_77 rfl hl (by decide) rfl (fun ls hl => ?_)
  refine lv_iload_n hx hb dX7_init_78 rfl (lv_at hl 0 rfl) ?_
  refine lv_iconst (v := (2 : Int32)) hx hb dX7_init_79 (by decide) ?_
  refine lv_icmp_ge (tgt := 97) hx hb dX7_init_80 (by decide) (fun c => absurd c (by decide)) (fun c => ?_)
  refine lv_aload_n hx hb dX7_init_83 rfl (lv_at hl 1 rfl) ?_
  refine va_get (D := fw_D E) (ci := 6) (v := .ref (fw_z E + (a + 7))) (C := RX7) (T := TX7) (N := 10) hx hb hU inU7 hown hK (fb_one hP ((fb_ix (k := 0) ha).trans rfl)) 0 rfl rfl 7 (by decide) (hU (Cond.fieldLink RX7 35 "LaundryService$State" "halves" "[I") mc_69) (fun _ h9 => h9) rfl dX7_init_84 ?_
  refine lv_iload_n hx hb dX7_init_87 rfl (lv_at hl 0 rfl) ?_
  refine lv_bipush (v := (80 : Int32)) hx hb dX7_init_88 (by decide) ?_
  refine fb_iast (n := 2) hx hb hK ha hP hS 7 rfl (vp_in_d (by decide)) dX7_init_90 (fun H locs hP hS => ?_)
  have hP : fb_P E (A ++ [.inr (6, [.ref (fw_z E + (a + 1)), .ref (fw_z E + (a + 2)), .ref (fw_z E + (a + 3)), .ref (fw_z E + (a + 4)), .ref (fw_z E + (a + 5)), .ref (fw_z E + (a + 6)), .int (0 : Int32), .ref (fw_z E + (a + 7)), .ref (fw_z E + (a + 8)), .int (0 : Int32)]), .inl (fw_cy E 0, 16, .inl (fun _ => 0)), .inl (fw_cy E 1, 16, .inl (fun _ => 0)), .inl (fw_cy E 0, 16, .inl (fun _ => 0)), .inl (fw_cy E 0, 16, .inl (fun _ => 0)), .inl (fw_cy E 0, 16, .inl (fun _ => 0)), .inl (fw_cy E 0, 16, .inl (fun _ => 0)), .inl (fw_cy E 0, 2, .inl (upd (fun _ => 0) ((0 : Int32)).toNatClampNeg (80 : Int32))), .inl (fw_cy E 3, 4, .inr (.inr (.inl (fun _ => 0))))]) H := hP
  refine lv_iinc (v := ((0 : Int32) + (1 : Int32))) (lv' := [(1, .int ((0 : Int32) + (1 : Int32))), (0, .ref (fw_z E + a))]) hx hb dX7_init_91 hl (k := 0) rfl rfl (by decide) rfl (fun ls hl => ?_)
  refine lv_goto (tgt := 78) hx hb dX7_init_94 (by decide) ?_
  refine lv_iload_n hx hb dX7_init_78 rfl (lv_at hl 0 rfl) ?_
  refine lv_iconst (v := (2 : Int32)) hx hb dX7_init_79 (by decide) ?_
  refine lv_icmp_ge (tgt := 97) hx hb dX7_init_80 (by decide) (fun c => absurd c (by decide)) (fun c => ?_)
  refine lv_aload_n hx hb dX7_init_83 rfl (lv_at hl 1 rfl) ?_
  refine va_get (D := fw_D E) (ci := 6) (v := .ref (fw_z E + (a + 7))) (C := RX7) (T := TX7) (N := 10) hx hb hU inU7 hown hK (fb_one hP ((fb_ix (k := 0) ha).trans rfl)) 0 rfl rfl 7 (by decide) (hU (Cond.fieldLink RX7 35 "LaundryService$State" "halves" "[I") mc_69) (fun _ h9 => h9) rfl dX7_init_84 ?_
  refine lv_iload_n hx hb dX7_init_87 rfl (lv_at hl 0 rfl) ?_
  refine lv_bipush (v := (80 : Int32)) hx hb dX7_init_88 (by decide) ?_
  refine fb_iast (n := 2) hx hb hK ha hP hS 7 rfl (vp_in_d (by decide)) dX7_init_90 (fun H locs hP hS => ?_)
  have hP : fb_P E (A ++ [.inr (6, [.ref (fw_z E + (a + 1)), .ref (fw_z E + (a + 2)), .ref (fw_z E + (a + 3)), .ref (fw_z E + (a + 4)), .ref (fw_z E + (a + 5)), .ref (fw_z E + (a + 6)), .int (0 : Int32), .ref (fw_z E + (a + 7)), .ref (fw_z E + (a + 8)), .int (0 : Int32)]), .inl (fw_cy E 0, 16, .inl (fun _ => 0)), .inl (fw_cy E 1, 16, .inl (fun _ => 0)), .inl (fw_cy E 0, 16, .inl (fun _ => 0)), .inl (fw_cy E 0, 16, .inl (fun _ => 0)), .inl (fw_cy E 0, 16, .inl (fun _ => 0)), .inl (fw_cy E 0, 16, .inl (fun _ => 0)), .inl (fw_cy E 0, 2, .inl (upd (upd (fun _ => 0) ((0 : Int32)).toNatClampNeg (80 : Int32)) (((0 : Int32) + (1 : Int32))).toNatClampNeg (80 : Int32))), .inl (fw_cy E 3, 4, .inr (.inr (.inl (fun _ => 0))))]) H := hP
  refine lv_iinc (v := (((0 : Int32) + (1 : Int32)) + (1 : Int32))) (lv' := [(1, .int (((0 : Int32) + (1 : Int32)) + (1 : Int32))), (0, .ref (fw_z E + a))]) hx hb dX7_init_91 hl (k := 0) rfl rfl (by decide) rfl (fun ls hl => ?_)
  refine lv_goto (tgt := 78) hx hb dX7_init_94 (by decide) ?_
  refine lv_iload_n hx hb dX7_init_78 rfl (lv_at hl 0 rfl) ?_
  refine lv_iconst (v := (2 : Int32)) hx hb dX7_init_79 (by decide) ?_
  refine lv_icmp_ge (tgt := 97) hx hb dX7_init_80 (by decide) (fun c => ?_) (fun c => absurd c (by decide))
  have hP : fb_P E (A ++ fb_st E a) H := hP
  refine W.widen (k := 8) (n := 102) (show (8 : Nat) ≤ 8 from by decide) (show (102 : Nat) ≤ 102 from by decide) ?_
  exact W.vret hx hb hr (fun t ht hW => ⟨rfl, by rw [ht]; exact hP, hS.F ht⟩) hS.2.2 dX7_init_97
