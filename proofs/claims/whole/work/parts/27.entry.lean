/-! the law up to its loop, laid by wip/whole/lay4.py -/
theorem mc_31 : (Cond.classLink RL 8 RX9) ∈ fw_U := fw_inU (i := 31) (by decide +kernel) (by decide +kernel)
theorem mc_32 : (Cond.instantiable RX9 9) ∈ fw_U := fw_inU (i := 32) (by decide +kernel) (by decide +kernel)
theorem mc_1 : (Cond.initialized RX9) ∈ fw_U := fw_inU (i := 1) (by decide +kernel) (by decide +kernel)
theorem mc_35 : (Cond.code yX9_init cX9_init 1 none) ∈ fw_U := fw_inU (i := 35) (by decide +kernel) (by decide +kernel)
theorem mc_34 : (Cond.instanceMethod yX9_init) ∈ fw_U := fw_inU (i := 34) (by decide +kernel) (by decide +kernel)
theorem mc_33 : (Cond.methodLink RL 156 yX9_init) ∈ fw_U := fw_inU (i := 33) (by decide +kernel) (by decide +kernel)
theorem mc_1111 : (Cond.classLink RL 157 RX10) ∈ fw_U := fw_inU (i := 1111) (by decide +kernel) (by decide +kernel)
theorem mc_1112 : (Cond.instantiable RX10 20) ∈ fw_U := fw_inU (i := 1112) (by decide +kernel) (by decide +kernel)
theorem mc_9 : (Cond.initialized RX10) ∈ fw_U := fw_inU (i := 9) (by decide +kernel) (by decide +kernel)
theorem mc_1115 : (Cond.code yX10_init cX10_init 1 none) ∈ fw_U := fw_inU (i := 1115) (by decide +kernel) (by decide +kernel)
theorem mc_1114 : (Cond.instanceMethod yX10_init) ∈ fw_U := fw_inU (i := 1114) (by decide +kernel) (by decide +kernel)
theorem mc_1113 : (Cond.methodLink RL 159 yX10_init) ∈ fw_U := fw_inU (i := 1113) (by decide +kernel) (by decide +kernel)
theorem mc_1557 : (Cond.arrayClass .long) ∈ fw_U := fw_inU (i := 1557) (by decide +kernel) (by decide +kernel)
theorem mc_1558 : (Cond.arrayClass .double) ∈ fw_U := fw_inU (i := 1558) (by decide +kernel) (by decide +kernel)
abbrev fb_wl (E : fw_E) : List va_E := (([] : List va_E) ++ (((fb_sv E 0 ++ fb_md E 128) ++ [.inl (fw_cy E 6, 1, .inr (.inl (fun _ => 0)))]) ++ [.inl (fw_cy E 7, 1, .inr (.inr (.inr (.inl (fun _ => 0)))))]))
set_option maxHeartbeats 1000000 in
set_option maxRecDepth 100000 in
theorem law_entry {p : Program} {l : Launch} {e : Env} {s : State} {m : MethodId} {below : List Frame} {meth : Method} {c : Code} {b : Nat} {E : fw_E} {Q : State → Prop} (hx : p.tables.exec = Jvm.exec) (hb : c.code = cL_law) (hml : c.maxLocals = 9) (hown : s.vm.findClass RL = some m.cls) (hU : ∀ w ∈ fw_U, w.before #[Value.ref b] s = true) (hK : va_K (fw_D E) vwCl (fw_tys E) s) (hSt : fw_S E s s.heap) (hO1 : va_AO "LaundryService$State" s) (hO2 : va_AO "LaundryService$Command" s) (hz : fw_z E = s.heap.size)
    (kk : ∀ (H : Heap) (locs : List Loc) (ls : Array Slot), fb_P E (fb_wl E) H → va_S (fw_A E) s.heap H locs → lv_has ls 9 [(0, .ref b), (1, .ref (fw_z E + (0 + 0))), (2, .ref (fw_z E + (0 + 128))), (3, .ref (fw_z E + (0 + 137))), (4, .ref (fw_z E + (0 + 138))), (5, .int (0 : Int32))] → W p l e room_1 s m #[Value.ref b] below meth c H locs 139 3410 Q (F0 m 28 ls [])) :
    W p l e room_1 s m #[Value.ref b] below meth c s.heap [] 0 0 Q (entryFrame m ([Value.ref b] : List Value).toArray 9) := by
  have ha : ([] : List va_E).length = 0 := rfl
  have hS : va_S (fw_A E) s.heap s.heap [] := va_S.rf
  have hP : fb_P E ([] ++ ([] : List va_E)) s.heap := ⟨hz.symm, fun i e h => by cases h⟩
  have hl := lv_entry ([.ref b]) (n := 9) (Nat.le_of_ble_eq_true rfl)
  rw [lg_entry_eq]
  generalize (lg_sl ([.ref b]) ++ List.replicate (9 - (lg_sl ([.ref b])).length) Slot.unset).toArray = ls at hl ⊢
  have hl : lv_has ls 9 [(0, .ref b)] := hl
  refine fb_new (E := E) (A := []) (a := 0) (ci := 7) (fs := [.null, .null, .null, .int 0, .null, .null, .null, .int 0, .int 0]) (C := RX9) (T := TX9) (N := 9) (n := 0) hx hb hU inU9 tyX9 tyX9_ok hown (hU (Cond.classLink RL 8 RX9) mc_31) (hU (Cond.instantiable RX9 9) mc_32) (hU (Cond.initialized RX9) mc_1) hK ha hP hS rfl rfl (by decide +kernel) (show (1 : Nat) ≤ 603072 from by decide) (show (9 : Nat) ≤ 7182442 from by decide) dL_law_0 (fun H hP hS => ?_)
  refine lv_dup hx hb dL_law_3 rfl ?_
  have hP9 : fb_P E (([] ++ ([] : List va_E)) ++ [.inr (7, [.null, .null, .null, .int 0, .null, .null, .null, .int 0, .int 0])]) H := by rw [List.append_assoc]; exact hP
  refine fb_ret (va_runI (As := []) (rest := [.ref (fw_z E + (0 + 0))]) ⟨hx, hb, hml, hown, hU⟩ (kc_X9 l (A := [] ++ ([] : List va_E)) (a := 0 + 0) (by rfl)) (cwI 0 hU (fw_gC mc_35) rfl rfl rfl (hU (Cond.initialized RX9) mc_1) (hU (Cond.methodLink RL 156 yX9_init) mc_33) (hU (Cond.instanceMethod yX9_init) mc_34) rfl (by decide +kernel) ⟨(Nat.le_of_ble_eq_true rfl), (Nat.le_of_ble_eq_true rfl)⟩) ⟨fb_blind, fun U hU9 hW9 => ⟨rfl, fb_pre hK hP9 hSt hO1 hO2 hS U hU9 hW9⟩⟩ rfl rfl hl.1 rfl (lv_room (Nat.le_of_ble_eq_true rfl)) dL_law_4 ⟨show (128 : Nat) ≤ 603072 from by decide, show (1668 : Nat) ≤ 7182442 from by decide⟩) hS (fun H locs hP hS => ?_)
  rw [List.append_assoc] at hP
  have hP : fb_P E ([] ++ fb_sv E 0) H := hP
  refine lv_astore_n (lv' := [(1, .ref (fw_z E + (0 + 0))), (0, .ref b)]) hx hb dL_law_7 rfl hl (by decide) rfl (fun ls hl => ?_)
  refine fb_new (E := E) (A := []) (a := 0) (ci := 8) (fs := [.int 0, .null, .null, .null, .null, .int 0, .int 0, .null, .null, .null, .null, .int 0, .int 0, .int 0, .int 0, .int 0, .int 0, .int 0, .int 0, .int 0]) (C := RX10) (T := TX10) (N := 20) (n := 128) hx hb hU inU10 tyX10 tyX10_ok hown (hU (Cond.classLink RL 157 RX10) mc_1111) (hU (Cond.instantiable RX10 20) mc_1112) (hU (Cond.initialized RX10) mc_9) hK ha hP hS rfl rfl (by decide +kernel) (show (129 : Nat) ≤ 603072 from by decide) (show (1688 : Nat) ≤ 7182442 from by decide) dL_law_8 (fun H hP hS => ?_)
  refine lv_dup hx hb dL_law_11 rfl ?_
  have hP9 : fb_P E (([] ++ fb_sv E 0) ++ [.inr (8, [.int 0, .null, .null, .null, .null, .int 0, .int 0, .null, .null, .null, .null, .int 0, .int 0, .int 0, .int 0, .int 0, .int 0, .int 0, .int 0, .int 0])]) H := by rw [List.append_assoc]; exact hP
  refine fb_ret (va_runI (As := []) (rest := [.ref (fw_z E + (0 + 128))]) ⟨hx, hb, hml, hown, hU⟩ (kc_X10 l (A := [] ++ fb_sv E 0) (a := 0 + 128) (by rfl)) (cwI 0 hU (fw_gC mc_1115) rfl rfl rfl (hU (Cond.initialized RX10) mc_9) (hU (Cond.methodLink RL 159 yX10_init) mc_1113) (hU (Cond.instanceMethod yX10_init) mc_1114) rfl (by decide +kernel) ⟨(Nat.le_of_ble_eq_true rfl), (Nat.le_of_ble_eq_true rfl)⟩) ⟨fb_blind, fun U hU9 hW9 => ⟨rfl, fb_pre hK hP9 hSt hO1 hO2 hS U hU9 hW9⟩⟩ rfl rfl hl.1 rfl (lv_room (Nat.le_of_ble_eq_true rfl)) dL_law_12 ⟨show (137 : Nat) ≤ 603072 from by decide, show (3408 : Nat) ≤ 7182442 from by decide⟩) hS (fun H locs hP hS => ?_)
  rw [List.append_assoc] at hP
  have hP : fb_P E ([] ++ (fb_sv E 0 ++ fb_md E 128)) H := hP
  refine lv_astore_n (lv' := [(2, .ref (fw_z E + (0 + 128))), (1, .ref (fw_z E + (0 + 0))), (0, .ref b)]) hx hb dL_law_15 rfl hl (by decide) rfl (fun ls hl => ?_)
  refine lv_iconst (v := (1 : Int32)) hx hb dL_law_16 (by decide) ?_
  refine fb_newa (E := E) (A := []) (a := 0) (atype := .long) (ty := .long) (t0 := 6) (cT := fw_cy E 6) (a0 := (1, .inr (.inl (fun _ => 0)))) (N' := 1) (nn := 137) hx hb (hU (Cond.arrayClass .long) mc_1557) rfl hK ha hP hS rfl rfl (fun h => h) (fun _ => by rw [vp_cell_l]; rfl) (by decide) (by decide) (by decide) (show (138 : Nat) ≤ 603072 from by decide) (show (3409 : Nat) ≤ 7182442 from by decide) dL_law_17 (fun H hP hS => ?_)
  refine lv_astore_n (lv' := [(3, .ref (fw_z E + (0 + 137))), (2, .ref (fw_z E + (0 + 128))), (1, .ref (fw_z E + (0 + 0))), (0, .ref b)]) hx hb dL_law_19 rfl hl (by decide) rfl (fun ls hl => ?_)
  refine lv_iconst (v := (1 : Int32)) hx hb dL_law_20 (by decide) ?_
  refine fb_newa (E := E) (A := []) (a := 0) (atype := .double) (ty := .double) (t0 := 7) (cT := fw_cy E 7) (a0 := (1, .inr (.inr (.inr (.inl (fun _ => 0)))))) (N' := 1) (nn := 138) hx hb (hU (Cond.arrayClass .double) mc_1558) rfl hK ha hP hS rfl rfl (fun h => h) (fun _ => by rw [vp_cell_d]; rfl) (by decide) (by decide) (by decide) (show (139 : Nat) ≤ 603072 from by decide) (show (3410 : Nat) ≤ 7182442 from by decide) dL_law_21 (fun H hP hS => ?_)
  refine lv_astore (lv' := [(4, .ref (fw_z E + (0 + 138))), (3, .ref (fw_z E + (0 + 137))), (2, .ref (fw_z E + (0 + 128))), (1, .ref (fw_z E + (0 + 0))), (0, .ref b)]) hx hb dL_law_23 hl (by decide) rfl (fun ls hl => ?_)
  refine lv_iconst (v := (0 : Int32)) hx hb dL_law_25 (by decide) ?_
  refine lv_istore (lv' := [(5, .int (0 : Int32)), (4, .ref (fw_z E + (0 + 138))), (3, .ref (fw_z E + (0 + 137))), (2, .ref (fw_z E + (0 + 128))), (1, .ref (fw_z E + (0 + 0))), (0, .ref b)]) hx hb dL_law_26 hl (by decide) rfl (fun ls hl => ?_)
  exact kk H locs ls hP hS (lv_sub hl [5, 4, 3, 2, 1, 0] rfl)
