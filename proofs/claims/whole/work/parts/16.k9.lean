/-! contracts, laid by wip/whole/lay.py out of the bytecode listing -/
theorem fw_acmp_eqk {p : Program} {l : Launch} {e : Env} {R : Room} {s : State} {m : MethodId} {args : Array Value} {below : List Frame} {meth : Method} {c : Code} {H : Heap} {locs : List Loc} {cells slots : Nat} {Q : State → Prop} {cc : ByteArray} {pc : Nat} {ls : Array Slot} {rest : List Value} {E : fw_E} (hexec : p.tables.exec = Jvm.exec) (hb : c.code = cc) (hE : fw_ok E) {a b : Int32} (ha : fw_in a 6 = true) (hb5 : fw_in b 6 = true) {off : Int} {tgt : Nat} (hdg : decode cc pc = .ok (.if_acmp .eq off, 3)) (ht : (pc : Int) + off = (tgt : Int))
    (kt : a = b → W p l e R s m args below meth c H locs cells slots Q (F0 m tgt ls rest)) (kf : ¬ a = b → W p l e R s m args below meth c H locs cells slots Q (F0 m (pc + 3) ls rest)) : W p l e R s m args below meth c H locs cells slots Q (F0 m pc ls (fw_kv E b :: fw_kv E a :: rest)) := by
  rw [fw_kv_pos ha, fw_kv_pos hb5]
  exact lv_acmp_eq (rx := some (fw_x E 0 a.toNatClampNeg)) (ry := some (fw_x E 0 b.toNatClampNeg)) hexec hb hdg ht (fun z => kt (fw_inj ha hb5 (by decide) (hE.2.2.1 _ _ (fw_in_lt ha) (fw_in_lt hb5) (Option.some.inj z)))) (fun z => kf (fun w => z (by rw [w])))
set_option maxHeartbeats 4000000 in
set_option maxRecDepth 100000 in
theorem k_X9_raise (l : Launch) (hst : l.stackTraces = false) {E : fw_E} {o : Int64} {d : UInt64} (hE : fw_ok E) {μ μ' : fw_M} (x0 : Int32) {r : Unit} {k : Nat} (h : f_X9_raise μ x0 = some (μ', r, k)) : vx_Met l yX9_raise (fw_ws yX9_raise cX9_raise 1 none) ({ frames := 6, cells := 1, slots := 6, locals := 90 } : Room) (va_Pc [fw_fv E x0] (fw_Pre E o d μ)) (fw_QR E o d k none μ') (fw_XC E o d k μ') 1 6 (fw_A E) := by
  refine vx_ofW (cc := cX9_raise) (maxL := 1) (ret := none) (by decide) rfl ?_
  intro p e s m args below meth c s₁ B hml hex hv
  obtain ⟨ha, hK, hP, hSt⟩ := hv
  have hx := B.exec
  have hb := B.bytes
  have hr := B.returns
  have hts := atoms_spec (ws := fw_ws yX9_raise cX9_raise 1 none) B.pre
  have hU : ∀ w ∈ fw_U, w.before args s = true := fun w hw => hts w (List.mem_cons_of_mem _ hw)
  have hown : s.vm.findClass RX9 = some m.cls := findClass_of_methodNamed B.named
  have hlocks := B.notSynchronized
  have EN : ∀ (H : Heap) (locs : List Loc) (ls : Array Slot), fw_P E o d μ H → va_S (fw_A E) s.heap H locs → lv_has ls 1 [(0, fw_fv E x0)] → W p l e (headSpec (fw_ws yX9_raise cX9_raise 1 none) ({ frames := 6, cells := 1, slots := 6, locals := 90 } : Room)).room s m args below meth c H locs 0 0 (vx_MQ below (fw_QR E o d k none μ') (fw_XC E o d k μ') args s 1 6 (fw_A E)) (F0 m 0 ls []) := by
    intro H locs ls hP hS hl
    unfold f_X9_raise at h
    refine lv_aload_n hx hb dX9_raise_0 rfl (lv_at hl 0 rfl) ?_
    refine va_gets (v := fw_fv E (1 : Int32)) hx hb (fw_zf_INDEX hSt) hS hown (hU (Cond.fieldLink RX9 344 "LaundryService$Fault" "INDEX" "LLaundryService$Fault;") m_442) (fun _ h9 => h9) dX9_raise_1 ?_
    obtain ⟨g1, h⟩ := fw_g_e h
    refine fw_acmp_nef hx hb hE g1 (by decide) (tgt := 18) dX9_raise_4 (by decide) (fun c1 => ?_) (fun c1 => ?_)
    · rw [if_neg c1] at h
      refine lv_aload_n hx hb dX9_raise_18 rfl (lv_at hl 0 rfl) ?_
      refine va_gets (v := fw_fv E (2 : Int32)) hx hb (fw_zf_ARGUMENT hSt) hS hown (hU (Cond.fieldLink RX9 352 "LaundryService$Fault" "ARGUMENT" "LLaundryService$Fault;") m_456) (fun _ h9 => h9) dX9_raise_19 ?_
      obtain ⟨g2, h⟩ := fw_g_e h
      refine fw_acmp_nef hx hb hE g2 (by decide) (tgt := 36) dX9_raise_22 (by decide) (fun c2 => ?_) (fun c2 => ?_)
      · rw [if_neg c2] at h
        refine lv_aload_n hx hb dX9_raise_36 rfl (lv_at hl 0 rfl) ?_
        refine va_gets (v := fw_fv E (3 : Int32)) hx hb (fw_zf_PLACE hSt) hS hown (hU (Cond.fieldLink RX9 357 "LaundryService$Fault" "PLACE" "LLaundryService$Fault;") m_473) (fun _ h9 => h9) dX9_raise_37 ?_
        obtain ⟨g3, h⟩ := fw_g_e h
        refine fw_acmp_nef hx hb hE g3 (by decide) (tgt := 54) dX9_raise_40 (by decide) (fun c3 => ?_) (fun c3 => ?_)
        · rw [if_neg c3] at h
          refine lv_aload_n hx hb dX9_raise_54 rfl (lv_at hl 0 rfl) ?_
          refine va_gets (v := fw_fv E (4 : Int32)) hx hb (fw_zf_STATE hSt) hS hown (hU (Cond.fieldLink RX9 362 "LaundryService$Fault" "STATE" "LLaundryService$Fault;") m_491) (fun _ h9 => h9) dX9_raise_55 ?_
          obtain ⟨g4, h⟩ := fw_g_e h
          refine fw_acmp_nef hx hb hE g4 (by decide) (tgt := 72) dX9_raise_58 (by decide) (fun c4 => ?_) (fun c4 => ?_)
          · rw [if_neg c4] at h
            refine W.widen (k := 1) (n := 6) (Nat.le_of_ble_eq_true rfl) (Nat.le_of_ble_eq_true rfl) (vx_ret ?_)
            exact W.vret hx hb hr (fw_xv h hP hS) hS.2.2 dX9_raise_72
          · rw [if_pos c4] at h
            exact fw_throwW hx hb hst hown hU hSt hP hS (m_492) (m_19) (List.mem_of_getElem? (i := 21) rfl) thr_205 (hl.1.trans hml.symm) dX9_raise_61 dX9_raise_64 dX9_raise_65 dX9_raise_68 dX9_raise_71 hex (Nat.le_of_ble_eq_true rfl) (Nat.le_of_ble_eq_true rfl) (Nat.le_of_ble_eq_true rfl) (Nat.le_of_ble_eq_true rfl) hlocks h (by decide) rfl (Nat.le_of_ble_eq_true rfl) (Nat.le_of_ble_eq_true rfl)
        · rw [if_pos c3] at h
          exact fw_throwW hx hb hst hown hU hSt hP hS (m_475) (m_18) (List.mem_of_getElem? (i := 20) rfl) thr_146 (hl.1.trans hml.symm) dX9_raise_43 dX9_raise_46 dX9_raise_47 dX9_raise_50 dX9_raise_53 hex (Nat.le_of_ble_eq_true rfl) (Nat.le_of_ble_eq_true rfl) (Nat.le_of_ble_eq_true rfl) (Nat.le_of_ble_eq_true rfl) hlocks h (by decide) rfl (Nat.le_of_ble_eq_true rfl) (Nat.le_of_ble_eq_true rfl)
      · rw [if_pos c2] at h
        exact fw_throwW hx hb hst hown hU hSt hP hS (m_457) (m_17) (List.mem_of_getElem? (i := 19) rfl) thr_271 (hl.1.trans hml.symm) dX9_raise_25 dX9_raise_28 dX9_raise_29 dX9_raise_32 dX9_raise_35 hex (Nat.le_of_ble_eq_true rfl) (Nat.le_of_ble_eq_true rfl) (Nat.le_of_ble_eq_true rfl) (Nat.le_of_ble_eq_true rfl) hlocks h (by decide) rfl (Nat.le_of_ble_eq_true rfl) (Nat.le_of_ble_eq_true rfl)
    · rw [if_pos c1] at h
      exact fw_throwW hx hb hst hown hU hSt hP hS (m_443) (m_13) (List.mem_of_getElem? (i := 18) rfl) thr_307 (hl.1.trans hml.symm) dX9_raise_7 dX9_raise_10 dX9_raise_11 dX9_raise_14 dX9_raise_17 hex (Nat.le_of_ble_eq_true rfl) (Nat.le_of_ble_eq_true rfl) (Nat.le_of_ble_eq_true rfl) (Nat.le_of_ble_eq_true rfl) hlocks h (by decide) rfl (Nat.le_of_ble_eq_true rfl) (Nat.le_of_ble_eq_true rfl)
  subst ha
  have hl := lv_entry ([fw_fv E x0]) (n := 1) (Nat.le_of_ble_eq_true rfl)
  rw [lg_entry_eq]
  generalize (lg_sl ([fw_fv E x0]) ++ List.replicate (1 - (lg_sl ([fw_fv E x0])).length) Slot.unset).toArray = ls at hl ⊢
  exact EN s.heap [] ls hP va_S.rf hl
set_option maxHeartbeats 4000000 in
set_option maxRecDepth 100000 in
theorem k_X9_bring (l : Launch) (hst : l.stackTraces = false) {E : fw_E} {o : Int64} {d : UInt64} (hE : fw_ok E) {μ μ' : fw_M} (x1 : Int32) (x2 : Int32) (x3 : Int32) (x4 : Int32) {r : Int32} {k : Nat} (h : f_X9_bring μ x1 x2 x3 x4 = some (μ', r, k)) : vx_Met l yX9_bring (fw_ws yX9_bring cX9_bring 5 (some .int)) ({ frames := 7, cells := 1, slots := 6, locals := 110 } : Room) (va_Pc [.ref (fw_ad E 0 10), .int x1, .int x2, .int x3, .int x4] (fw_Pre E o d μ)) (fw_QR E o d k (some (.int r)) μ') (fw_XC E o d k μ') 1 6 (fw_A E) := by
  refine vx_ofW (cc := cX9_bring) (maxL := 5) (ret := (some .int)) (by decide) rfl ?_
  intro p e s m args below meth c s₁ B hml hex hv
  obtain ⟨ha, hK, hP, hSt⟩ := hv
  have hx := B.exec
  have hb := B.bytes
  have hr := B.returns
  have hts := atoms_spec (ws := fw_ws yX9_bring cX9_bring 5 (some .int)) B.pre
  have hU : ∀ w ∈ fw_U, w.before args s = true := fun w hw => hts w (List.mem_cons_of_mem _ hw)
  have hown : s.vm.findClass RX9 = some m.cls := findClass_of_methodNamed B.named
  have hlocks := B.notSynchronized
  have EN : ∀ (H : Heap) (locs : List Loc) (ls : Array Slot), fw_P E o d μ H → va_S (fw_A E) s.heap H locs → lv_has ls 5 [(0, .ref (fw_ad E 0 10)), (1, .int x1), (2, .int x2), (3, .int x3), (4, .int x4)] → W p l e (headSpec (fw_ws yX9_bring cX9_bring 5 (some .int)) ({ frames := 7, cells := 1, slots := 6, locals := 110 } : Room)).room s m args below meth c H locs 0 0 (vx_MQ below (fw_QR E o d k (some (.int r)) μ') (fw_XC E o d k μ') args s 1 6 (fw_A E)) (F0 m 0 ls []) := by
    intro H locs ls hP hS hl
    unfold f_X9_bring at h
    refine lv_aload_n hx hb dX9_bring_0 rfl (lv_at hl 0 rfl) ?_
    refine va_get (D := fw_D E) (ci := 7) (v := .ref (fw_ad E 0 0)) (C := RX9) (T := TX9) (N := 9) hx hb hU inU9 hown hK (fw_at hP (fw_V0 (f := 10) (by decide) (by decide))) 0 rfl rfl 0 (by decide) (hU (Cond.fieldLink RX9 12 "LaundryService" "state" "LLaundryService$State;") m_193) (fun _ h9 => h9) rfl dX9_bring_1 ?_
    refine lv_iload_n hx hb dX9_bring_4 rfl (lv_at hl 1 rfl) ?_
    refine lv_iload_n hx hb dX9_bring_5 rfl (lv_at hl 3 rfl) ?_
    refine lv_iload hx hb dX9_bring_6 (lv_at hl 4 rfl) ?_
    obtain ⟨r1, hc1, h⟩ := fw_b1_e h
    refine fw_ret (va_runV (As := [.int x1, .int x3, .int x4]) (rest := []) ⟨hx, hb, hml, hown, hU⟩ (k_X7_faultOfBringing l hE (by decide) x1 x3 x4 hc1) (cwV 3 hU (fw_gV m_424 m_425 m_426 m_2 m_427) rfl rfl rfl (by decide +kernel) ⟨(Nat.le_of_ble_eq_true rfl), (Nat.le_of_ble_eq_true rfl)⟩) ⟨fw_blind, fw_recv hK hP (fw_Vs (f := 0) (by decide) (by decide)) rfl rfl, fun U hU9 hW9 => ⟨rfl, fw_pre hK hP hSt hS U hU9 hW9⟩⟩ rfl rfl hl.1 rfl (lv_room (Nat.le_of_ble_eq_true rfl)) dX9_bring_8 ⟨Nat.zero_le _, Nat.zero_le _⟩) hS (fun H locs hP hS => ?_)
    obtain ⟨μ2, r2, k2, hc2, h⟩ := fw_b3_e h
    refine fw_xretv (vx_runS (As := [fw_fv E r1]) (rest := []) ⟨hx, hb, hml, hown, hU⟩ (k_X9_raise l hst hE r1 hc2) (va_cwS 1 hU (fw_gS m_439 m_440 m_1 m_441) rfl rfl rfl (by decide +kernel) ⟨(Nat.le_of_ble_eq_true rfl), (Nat.le_of_ble_eq_true rfl)⟩) ⟨fw_blind, fun U hU9 hW9 => ⟨rfl, fw_pre hK hP hSt hS U hU9 hW9⟩⟩ rfl rfl hl.1 rfl (lv_room (Nat.le_of_ble_eq_true rfl)) dX9_bring_11 ⟨(Nat.le_of_ble_eq_true rfl), (Nat.le_of_ble_eq_true rfl)⟩) hS (fun hk2 H locs hP hS => ?_) (fun hk2 H locs q ce hP hS hce hcv hcl => ?_)
    · rw [if_pos hk2] at h
      refine lv_aload_n hx hb dX9_bring_14 rfl (lv_at hl 0 rfl) ?_
      refine va_get (D := fw_D E) (ci := 7) (v := .ref (fw_ad E 0 11)) (C := RX9) (T := TX9) (N := 9) hx hb hU inU9 hown hK (fw_at hP (fw_V0 (f := 10) (by decide) (by decide))) 0 rfl rfl 4 (by decide) (hU (Cond.fieldLink RX9 29 "LaundryService" "history" "LLaundryService$History;") m_197) (fun _ h9 => h9) rfl dX9_bring_15 ?_
      refine lv_aload_n hx hb dX9_bring_18 rfl (lv_at hl 0 rfl) ?_
      refine va_get (D := fw_D E) (ci := 7) (v := .ref (fw_ad E 0 0)) (C := RX9) (T := TX9) (N := 9) hx hb hU inU9 hown hK (fw_at hP (fw_V0 (f := 10) (by decide) (by decide))) 0 rfl rfl 0 (by decide) (hU (Cond.fieldLink RX9 12 "LaundryService" "state" "LLaundryService$State;") m_193) (fun _ h9 => h9) rfl dX9_bring_19 ?_
      obtain ⟨μ3, r3, hc3, h⟩ := fw_b2_e h
      refine fw_retv (va_runV (As := [.ref (fw_ad E 0 0)]) (rest := []) ⟨hx, hb, hml, hown, hU⟩ (k_X3_remember l hE (by decide) hc3) (cwV 1 hU (fw_gV m_508 m_509 m_510 m_3 m_511) rfl rfl rfl (by decide +kernel) ⟨(Nat.le_of_ble_eq_true rfl), (Nat.le_of_ble_eq_true rfl)⟩) ⟨fw_blind, fw_recv hK hP (fw_V0 (f := 11) (by decide) (by decide)) rfl rfl, fun U hU9 hW9 => ⟨rfl, fw_pre hK hP hSt hS U hU9 hW9⟩⟩ rfl rfl hl.1 rfl (lv_room (Nat.le_of_ble_eq_true rfl)) dX9_bring_22 ⟨(Nat.le_of_ble_eq_true rfl), (Nat.le_of_ble_eq_true rfl)⟩) hS (fun H locs hP hS => ?_)
      refine lv_aload_n hx hb dX9_bring_25 rfl (lv_at hl 0 rfl) ?_
      refine va_get (D := fw_D E) (ci := 7) (v := .ref (fw_ad E 0 0)) (C := RX9) (T := TX9) (N := 9) hx hb hU inU9 hown hK (fw_at hP (fw_V0 (f := 10) (by decide) (by decide))) 0 rfl rfl 0 (by decide) (hU (Cond.fieldLink RX9 12 "LaundryService" "state" "LLaundryService$State;") m_193) (fun _ h9 => h9) rfl dX9_bring_26 ?_
      refine lv_iload_n hx hb dX9_bring_29 rfl (lv_at hl 1 rfl) ?_
      refine lv_iload_n hx hb dX9_bring_30 rfl (lv_at hl 2 rfl) ?_
      refine lv_iload_n hx hb dX9_bring_31 rfl (lv_at hl 3 rfl) ?_
      refine lv_iload hx hb dX9_bring_32 (lv_at hl 4 rfl) ?_
      obtain ⟨μ4, r4, hc4, h⟩ := fw_b2_e h
      refine fw_ret (va_runV (As := [.int x1, .int x2, .int x3, .int x4]) (rest := []) ⟨hx, hb, hml, hown, hU⟩ (k_X7_addGarment l hE (by decide) x1 x2 x3 x4 hc4) (cwV 4 hU (fw_gV m_528 m_529 m_530 m_2 m_531) rfl rfl rfl (by decide +kernel) ⟨(Nat.le_of_ble_eq_true rfl), (Nat.le_of_ble_eq_true rfl)⟩) ⟨fw_blind, fw_recv hK hP (fw_Vs (f := 0) (by decide) (by decide)) rfl rfl, fun U hU9 hW9 => ⟨rfl, fw_pre hK hP hSt hS U hU9 hW9⟩⟩ rfl rfl hl.1 rfl (lv_room (Nat.le_of_ble_eq_true rfl)) dX9_bring_34 ⟨(Nat.le_of_ble_eq_true rfl), (Nat.le_of_ble_eq_true rfl)⟩) hS (fun H locs hP hS => ?_)
      refine W.widen (k := 1) (n := 6) (Nat.le_of_ble_eq_true rfl) (Nat.le_of_ble_eq_true rfl) (vx_ret ?_)
      exact W.iret (v := r4) hx hb hr (fw_xw (mk := Value.int) h hP hS) hS.2.2 dX9_bring_37
    · rw [if_neg hk2] at h
      exact vx_out (fun z hz => (hex z hz).elim) hlocks hce hcv hcl (fw_xo h hk2 hP hS) hS.2.2 (Nat.le_of_ble_eq_true rfl) (Nat.le_of_ble_eq_true rfl)
  subst ha
  have hl := lv_entry ([.ref (fw_ad E 0 10), .int x1, .int x2, .int x3, .int x4]) (n := 5) (Nat.le_of_ble_eq_true rfl)
  rw [lg_entry_eq]
  generalize (lg_sl ([.ref (fw_ad E 0 10), .int x1, .int x2, .int x3, .int x4]) ++ List.replicate (5 - (lg_sl ([.ref (fw_ad E 0 10), .int x1, .int x2, .int x3, .int x4])).length) Slot.unset).toArray = ls at hl ⊢
  exact EN s.heap [] ls hP va_S.rf hl
set_option maxHeartbeats 4000000 in
set_option maxRecDepth 100000 in
theorem k_X9_load (l : Launch) (hst : l.stackTraces = false) {E : fw_E} {o : Int64} {d : UInt64} (hE : fw_ok E) {μ μ' : fw_M} (x1 : Int32) (x2 : Int32) {r : Int32} {k : Nat} (h : f_X9_load μ x1 x2 = some (μ', r, k)) : vx_Met l yX9_load (fw_ws yX9_load cX9_load 3 (some .int)) ({ frames := 7, cells := 1, slots := 6, locals := 110 } : Room) (va_Pc [.ref (fw_ad E 0 10), .int x1, .int x2] (fw_Pre E o d μ)) (fw_QR E o d k (some (.int r)) μ') (fw_XC E o d k μ') 1 6 (fw_A E) := by
  refine vx_ofW (cc := cX9_load) (maxL := 3) (ret := (some .int)) (by decide) rfl ?_
  intro p e s m args below meth c s₁ B hml hex hv
  obtain ⟨ha, hK, hP, hSt⟩ := hv
  have hx := B.exec
  have hb := B.bytes
  have hr := B.returns
  have hts := atoms_spec (ws := fw_ws yX9_load cX9_load 3 (some .int)) B.pre
  have hU : ∀ w ∈ fw_U, w.before args s = true := fun w hw => hts w (List.mem_cons_of_mem _ hw)
  have hown : s.vm.findClass RX9 = some m.cls := findClass_of_methodNamed B.named
  have hlocks := B.notSynchronized
  have EN : ∀ (H : Heap) (locs : List Loc) (ls : Array Slot), fw_P E o d μ H → va_S (fw_A E) s.heap H locs → lv_has ls 3 [(0, .ref (fw_ad E 0 10)), (1, .int x1), (2, .int x2)] → W p l e (headSpec (fw_ws yX9_load cX9_load 3 (some .int)) ({ frames := 7, cells := 1, slots := 6, locals := 110 } : Room)).room s m args below meth c H locs 0 0 (vx_MQ below (fw_QR E o d k (some (.int r)) μ') (fw_XC E o d k μ') args s 1 6 (fw_A E)) (F0 m 0 ls []) := by
    intro H locs ls hP hS hl
    unfold f_X9_load at h
    refine lv_aload_n hx hb dX9_load_0 rfl (lv_at hl 0 rfl) ?_
    refine va_get (D := fw_D E) (ci := 7) (v := .ref (fw_ad E 0 0)) (C := RX9) (T := TX9) (N := 9) hx hb hU inU9 hown hK (fw_at hP (fw_V0 (f := 10) (by decide) (by decide))) 0 rfl rfl 0 (by decide) (hU (Cond.fieldLink RX9 12 "LaundryService" "state" "LLaundryService$State;") m_193) (fun _ h9 => h9) rfl dX9_load_1 ?_
    refine lv_iload_n hx hb dX9_load_4 rfl (lv_at hl 1 rfl) ?_
    refine lv_iload_n hx hb dX9_load_5 rfl (lv_at hl 2 rfl) ?_
    obtain ⟨r1, hc1, h⟩ := fw_b1_e h
    refine fw_ret (va_runV (As := [.int x1, .int x2]) (rest := []) ⟨hx, hb, hml, hown, hU⟩ (k_X7_faultOfLoading l hE (by decide) x1 x2 hc1) (cwV 2 hU (fw_gV m_540 m_541 m_542 m_2 m_543) rfl rfl rfl (by decide +kernel) ⟨(Nat.le_of_ble_eq_true rfl), (Nat.le_of_ble_eq_true rfl)⟩) ⟨fw_blind, fw_recv hK hP (fw_Vs (f := 0) (by decide) (by decide)) rfl rfl, fun U hU9 hW9 => ⟨rfl, fw_pre hK hP hSt hS U hU9 hW9⟩⟩ rfl rfl hl.1 rfl (lv_room (Nat.le_of_ble_eq_true rfl)) dX9_load_6 ⟨Nat.zero_le _, Nat.zero_le _⟩) hS (fun H locs hP hS => ?_)
    obtain ⟨μ2, r2, k2, hc2, h⟩ := fw_b3_e h
    refine fw_xretv (vx_runS (As := [fw_fv E r1]) (rest := []) ⟨hx, hb, hml, hown, hU⟩ (k_X9_raise l hst hE r1 hc2) (va_cwS 1 hU (fw_gS m_439 m_440 m_1 m_441) rfl rfl rfl (by decide +kernel) ⟨(Nat.le_of_ble_eq_true rfl), (Nat.le_of_ble_eq_true rfl)⟩) ⟨fw_blind, fun U hU9 hW9 => ⟨rfl, fw_pre hK hP hSt hS U hU9 hW9⟩⟩ rfl rfl hl.1 rfl (lv_room (Nat.le_of_ble_eq_true rfl)) dX9_load_9 ⟨(Nat.le_of_ble_eq_true rfl), (Nat.le_of_ble_eq_true rfl)⟩) hS (fun hk2 H locs hP hS => ?_) (fun hk2 H locs q ce hP hS hce hcv hcl => ?_)
    · rw [if_pos hk2] at h
      refine lv_aload_n hx hb dX9_load_12 rfl (lv_at hl 0 rfl) ?_
      refine va_get (D := fw_D E) (ci := 7) (v := .ref (fw_ad E 0 11)) (C := RX9) (T := TX9) (N := 9) hx hb hU inU9 hown hK (fw_at hP (fw_V0 (f := 10) (by decide) (by decide))) 0 rfl rfl 4 (by decide) (hU (Cond.fieldLink RX9 29 "LaundryService" "history" "LLaundryService$History;") m_197) (fun _ h9 => h9) rfl dX9_load_13 ?_
      refine lv_aload_n hx hb dX9_load_16 rfl (lv_at hl 0 rfl) ?_
      refine va_get (D := fw_D E) (ci := 7) (v := .ref (fw_ad E 0 0)) (C := RX9) (T := TX9) (N := 9) hx hb hU inU9 hown hK (fw_at hP (fw_V0 (f := 10) (by decide) (by decide))) 0 rfl rfl 0 (by decide) (hU (Cond.fieldLink RX9 12 "LaundryService" "state" "LLaundryService$State;") m_193) (fun _ h9 => h9) rfl dX9_load_17 ?_
      obtain ⟨μ3, r3, hc3, h⟩ := fw_b2_e h
      refine fw_retv (va_runV (As := [.ref (fw_ad E 0 0)]) (rest := []) ⟨hx, hb, hml, hown, hU⟩ (k_X3_remember l hE (by decide) hc3) (cwV 1 hU (fw_gV m_508 m_509 m_510 m_3 m_511) rfl rfl rfl (by decide +kernel) ⟨(Nat.le_of_ble_eq_true rfl), (Nat.le_of_ble_eq_true rfl)⟩) ⟨fw_blind, fw_recv hK hP (fw_V0 (f := 11) (by decide) (by decide)) rfl rfl, fun U hU9 hW9 => ⟨rfl, fw_pre hK hP hSt hS U hU9 hW9⟩⟩ rfl rfl hl.1 rfl (lv_room (Nat.le_of_ble_eq_true rfl)) dX9_load_20 ⟨(Nat.le_of_ble_eq_true rfl), (Nat.le_of_ble_eq_true rfl)⟩) hS (fun H locs hP hS => ?_)
      refine lv_aload_n hx hb dX9_load_23 rfl (lv_at hl 0 rfl) ?_
      refine va_get (D := fw_D E) (ci := 7) (v := .ref (fw_ad E 0 0)) (C := RX9) (T := TX9) (N := 9) hx hb hU inU9 hown hK (fw_at hP (fw_V0 (f := 10) (by decide) (by decide))) 0 rfl rfl 0 (by decide) (hU (Cond.fieldLink RX9 12 "LaundryService" "state" "LLaundryService$State;") m_193) (fun _ h9 => h9) rfl dX9_load_24 ?_
      refine lv_iload_n hx hb dX9_load_27 rfl (lv_at hl 1 rfl) ?_
      refine lv_iload_n hx hb dX9_load_28 rfl (lv_at hl 2 rfl) ?_
      obtain ⟨μ4, r4, hc4, h⟩ := fw_b2_e h
      refine fw_retv (va_runV (As := [.int x1, .int x2]) (rest := []) ⟨hx, hb, hml, hown, hU⟩ (k_X7_putIntoMachine l hE (by decide) x1 x2 hc4) (cwV 2 hU (fw_gV m_553 m_554 m_555 m_2 m_556) rfl rfl rfl (by decide +kernel) ⟨(Nat.le_of_ble_eq_true rfl), (Nat.le_of_ble_eq_true rfl)⟩) ⟨fw_blind, fw_recv hK hP (fw_Vs (f := 0) (by decide) (by decide)) rfl rfl, fun U hU9 hW9 => ⟨rfl, fw_pre hK hP hSt hS U hU9 hW9⟩⟩ rfl rfl hl.1 rfl (lv_room (Nat.le_of_ble_eq_true rfl)) dX9_load_29 ⟨(Nat.le_of_ble_eq_true rfl), (Nat.le_of_ble_eq_true rfl)⟩) hS (fun H locs hP hS => ?_)
      refine lv_aload_n hx hb dX9_load_32 rfl (lv_at hl 0 rfl) ?_
      refine va_get (D := fw_D E) (ci := 7) (v := .ref (fw_ad E 0 0)) (C := RX9) (T := TX9) (N := 9) hx hb hU inU9 hown hK (fw_at hP (fw_V0 (f := 10) (by decide) (by decide))) 0 rfl rfl 0 (by decide) (hU (Cond.fieldLink RX9 12 "LaundryService" "state" "LLaundryService$State;") m_193) (fun _ h9 => h9) rfl dX9_load_33 ?_
      refine lv_iload_n hx hb dX9_load_36 rfl (lv_at hl 2 rfl) ?_
      obtain ⟨r5, hc5, h⟩ := fw_b1_e h
      refine fw_ret (va_runV (As := [.int x2]) (rest := []) ⟨hx, hb, hml, hown, hU⟩ (k_X7_countIn l hE (by decide) x2 hc5) (cwV 1 hU (fw_gV m_305 m_263 m_264 m_2 m_265) rfl rfl rfl (by decide +kernel) ⟨(Nat.le_of_ble_eq_true rfl), (Nat.le_of_ble_eq_true rfl)⟩) ⟨fw_blind, fw_recv hK hP (fw_Vs (f := 0) (by decide) (by decide)) rfl rfl, fun U hU9 hW9 => ⟨rfl, fw_pre hK hP hSt hS U hU9 hW9⟩⟩ rfl rfl hl.1 rfl (lv_room (Nat.le_of_ble_eq_true rfl)) dX9_load_37 ⟨(Nat.le_of_ble_eq_true rfl), (Nat.le_of_ble_eq_true rfl)⟩) hS (fun H locs hP hS => ?_)
      refine W.widen (k := 1) (n := 6) (Nat.le_of_ble_eq_true rfl) (Nat.le_of_ble_eq_true rfl) (vx_ret ?_)
      exact W.iret (v := r5) hx hb hr (fw_xw (mk := Value.int) h hP hS) hS.2.2 dX9_load_40
    · rw [if_neg hk2] at h
      exact vx_out (fun z hz => (hex z hz).elim) hlocks hce hcv hcl (fw_xo h hk2 hP hS) hS.2.2 (Nat.le_of_ble_eq_true rfl) (Nat.le_of_ble_eq_true rfl)
  subst ha
  have hl := lv_entry ([.ref (fw_ad E 0 10), .int x1, .int x2]) (n := 3) (Nat.le_of_ble_eq_true rfl)
  rw [lg_entry_eq]
  generalize (lg_sl ([.ref (fw_ad E 0 10), .int x1, .int x2]) ++ List.replicate (3 - (lg_sl ([.ref (fw_ad E 0 10), .int x1, .int x2])).length) Slot.unset).toArray = ls at hl ⊢
  exact EN s.heap [] ls hP va_S.rf hl
set_option maxHeartbeats 4000000 in
set_option maxRecDepth 100000 in
theorem k_X9_takeOut (l : Launch) (hst : l.stackTraces = false) {E : fw_E} {o : Int64} {d : UInt64} (hE : fw_ok E) {μ μ' : fw_M} (x1 : Int32) {r : Int32} {k : Nat} (h : f_X9_takeOut μ x1 = some (μ', r, k)) : vx_Met l yX9_takeOut (fw_ws yX9_takeOut cX9_takeOut 2 (some .int)) ({ frames := 7, cells := 1, slots := 6, locals := 110 } : Room) (va_Pc [.ref (fw_ad E 0 10), .int x1] (fw_Pre E o d μ)) (fw_QR E o d k (some (.int r)) μ') (fw_XC E o d k μ') 1 6 (fw_A E) := by
  refine vx_ofW (cc := cX9_takeOut) (maxL := 2) (ret := (some .int)) (by decide) rfl ?_
  intro p e s m args below meth c s₁ B hml hex hv
  obtain ⟨ha, hK, hP, hSt⟩ := hv
  have hx := B.exec
  have hb := B.bytes
  have hr := B.returns
  have hts := atoms_spec (ws := fw_ws yX9_takeOut cX9_takeOut 2 (some .int)) B.pre
  have hU : ∀ w ∈ fw_U, w.before args s = true := fun w hw => hts w (List.mem_cons_of_mem _ hw)
  have hown : s.vm.findClass RX9 = some m.cls := findClass_of_methodNamed B.named
  have hlocks := B.notSynchronized
  have EN : ∀ (H : Heap) (locs : List Loc) (ls : Array Slot), fw_P E o d μ H → va_S (fw_A E) s.heap H locs → lv_has ls 2 [(0, .ref (fw_ad E 0 10)), (1, .int x1)] → W p l e (headSpec (fw_ws yX9_takeOut cX9_takeOut 2 (some .int)) ({ frames := 7, cells := 1, slots := 6, locals := 110 } : Room)).room s m args below meth c H locs 0 0 (vx_MQ below (fw_QR E o d k (some (.int r)) μ') (fw_XC E o d k μ') args s 1 6 (fw_A E)) (F0 m 0 ls []) := by
    intro H locs ls hP hS hl
    unfold f_X9_takeOut at h
    refine lv_aload_n hx hb dX9_takeOut_0 rfl (lv_at hl 0 rfl) ?_
    refine va_get (D := fw_D E) (ci := 7) (v := .ref (fw_ad E 0 0)) (C := RX9) (T := TX9) (N := 9) hx hb hU inU9 hown hK (fw_at hP (fw_V0 (f := 10) (by decide) (by decide))) 0 rfl rfl 0 (by decide) (hU (Cond.fieldLink RX9 12 "LaundryService" "state" "LLaundryService$State;") m_193) (fun _ h9 => h9) rfl dX9_takeOut_1 ?_
    refine lv_iload_n hx hb dX9_takeOut_4 rfl (lv_at hl 1 rfl) ?_
    obtain ⟨r1, hc1, h⟩ := fw_b1_e h
    refine fw_ret (va_runV (As := [.int x1]) (rest := []) ⟨hx, hb, hml, hown, hU⟩ (k_X7_faultOfTakingOut l hE (by decide) x1 hc1) (cwV 1 hU (fw_gV m_564 m_565 m_566 m_2 m_567) rfl rfl rfl (by decide +kernel) ⟨(Nat.le_of_ble_eq_true rfl), (Nat.le_of_ble_eq_true rfl)⟩) ⟨fw_blind, fw_recv hK hP (fw_Vs (f := 0) (by decide) (by decide)) rfl rfl, fun U hU9 hW9 => ⟨rfl, fw_pre hK hP hSt hS U hU9 hW9⟩⟩ rfl rfl hl.1 rfl (lv_room (Nat.le_of_ble_eq_true rfl)) dX9_takeOut_5 ⟨Nat.zero_le _, Nat.zero_le _⟩) hS (fun H locs hP hS => ?_)
    obtain ⟨μ2, r2, k2, hc2, h⟩ := fw_b3_e h
    refine fw_xretv (vx_runS (As := [fw_fv E r1]) (rest := []) ⟨hx, hb, hml, hown, hU⟩ (k_X9_raise l hst hE r1 hc2) (va_cwS 1 hU (fw_gS m_439 m_440 m_1 m_441) rfl rfl rfl (by decide +kernel) ⟨(Nat.le_of_ble_eq_true rfl), (Nat.le_of_ble_eq_true rfl)⟩) ⟨fw_blind, fun U hU9 hW9 => ⟨rfl, fw_pre hK hP hSt hS U hU9 hW9⟩⟩ rfl rfl hl.1 rfl (lv_room (Nat.le_of_ble_eq_true rfl)) dX9_takeOut_8 ⟨(Nat.le_of_ble_eq_true rfl), (Nat.le_of_ble_eq_true rfl)⟩) hS (fun hk2 H locs hP hS => ?_) (fun hk2 H locs q ce hP hS hce hcv hcl => ?_)
    · rw [if_pos hk2] at h
      refine lv_aload_n hx hb dX9_takeOut_11 rfl (lv_at hl 0 rfl) ?_
      refine va_get (D := fw_D E) (ci := 7) (v := .ref (fw_ad E 0 11)) (C := RX9) (T := TX9) (N := 9) hx hb hU inU9 hown hK (fw_at hP (fw_V0 (f := 10) (by decide) (by decide))) 0 rfl rfl 4 (by decide) (hU (Cond.fieldLink RX9 29 "LaundryService" "history" "LLaundryService$History;") m_197) (fun _ h9 => h9) rfl dX9_takeOut_12 ?_
      refine lv_aload_n hx hb dX9_takeOut_15 rfl (lv_at hl 0 rfl) ?_
      refine va_get (D := fw_D E) (ci := 7) (v := .ref (fw_ad E 0 0)) (C := RX9) (T := TX9) (N := 9) hx hb hU inU9 hown hK (fw_at hP (fw_V0 (f := 10) (by decide) (by decide))) 0 rfl rfl 0 (by decide) (hU (Cond.fieldLink RX9 12 "LaundryService" "state" "LLaundryService$State;") m_193) (fun _ h9 => h9) rfl dX9_takeOut_16 ?_
      obtain ⟨μ3, r3, hc3, h⟩ := fw_b2_e h
      refine fw_retv (va_runV (As := [.ref (fw_ad E 0 0)]) (rest := []) ⟨hx, hb, hml, hown, hU⟩ (k_X3_remember l hE (by decide) hc3) (cwV 1 hU (fw_gV m_508 m_509 m_510 m_3 m_511) rfl rfl rfl (by decide +kernel) ⟨(Nat.le_of_ble_eq_true rfl), (Nat.le_of_ble_eq_true rfl)⟩) ⟨fw_blind, fw_recv hK hP (fw_V0 (f := 11) (by decide) (by decide)) rfl rfl, fun U hU9 hW9 => ⟨rfl, fw_pre hK hP hSt hS U hU9 hW9⟩⟩ rfl rfl hl.1 rfl (lv_room (Nat.le_of_ble_eq_true rfl)) dX9_takeOut_19 ⟨(Nat.le_of_ble_eq_true rfl), (Nat.le_of_ble_eq_true rfl)⟩) hS (fun H locs hP hS => ?_)
      refine lv_aload_n hx hb dX9_takeOut_22 rfl (lv_at hl 0 rfl) ?_
      refine va_get (D := fw_D E) (ci := 7) (v := .ref (fw_ad E 0 0)) (C := RX9) (T := TX9) (N := 9) hx hb hU inU9 hown hK (fw_at hP (fw_V0 (f := 10) (by decide) (by decide))) 0 rfl rfl 0 (by decide) (hU (Cond.fieldLink RX9 12 "LaundryService" "state" "LLaundryService$State;") m_193) (fun _ h9 => h9) rfl dX9_takeOut_23 ?_
      refine lv_iload_n hx hb dX9_takeOut_26 rfl (lv_at hl 1 rfl) ?_
      obtain ⟨μ4, r4, hc4, h⟩ := fw_b2_e h
      refine fw_ret (va_runV (As := [.int x1]) (rest := []) ⟨hx, hb, hml, hown, hU⟩ (k_X7_putBackIntoBag l hE (by decide) x1 hc4) (cwV 1 hU (fw_gV m_568 m_569 m_570 m_2 m_571) rfl rfl rfl (by decide +kernel) ⟨(Nat.le_of_ble_eq_true rfl), (Nat.le_of_ble_eq_true rfl)⟩) ⟨fw_blind, fw_recv hK hP (fw_Vs (f := 0) (by decide) (by decide)) rfl rfl, fun U hU9 hW9 => ⟨rfl, fw_pre hK hP hSt hS U hU9 hW9⟩⟩ rfl rfl hl.1 rfl (lv_room (Nat.le_of_ble_eq_true rfl)) dX9_takeOut_27 ⟨(Nat.le_of_ble_eq_true rfl), (Nat.le_of_ble_eq_true rfl)⟩) hS (fun H locs hP hS => ?_)
      refine W.widen (k := 1) (n := 6) (Nat.le_of_ble_eq_true rfl) (Nat.le_of_ble_eq_true rfl) (vx_ret ?_)
      exact W.iret (v := r4) hx hb hr (fw_xw (mk := Value.int) h hP hS) hS.2.2 dX9_takeOut_30
    · rw [if_neg hk2] at h
      exact vx_out (fun z hz => (hex z hz).elim) hlocks hce hcv hcl (fw_xo h hk2 hP hS) hS.2.2 (Nat.le_of_ble_eq_true rfl) (Nat.le_of_ble_eq_true rfl)
  subst ha
  have hl := lv_entry ([.ref (fw_ad E 0 10), .int x1]) (n := 2) (Nat.le_of_ble_eq_true rfl)
  rw [lg_entry_eq]
  generalize (lg_sl ([.ref (fw_ad E 0 10), .int x1]) ++ List.replicate (2 - (lg_sl ([.ref (fw_ad E 0 10), .int x1])).length) Slot.unset).toArray = ls at hl ⊢
  exact EN s.heap [] ls hP va_S.rf hl
set_option maxHeartbeats 4000000 in
set_option maxRecDepth 100000 in
theorem k_X9_setTemperature (l : Launch) (hst : l.stackTraces = false) {E : fw_E} {o : Int64} {d : UInt64} (hE : fw_ok E) {μ μ' : fw_M} (x1 : Int32) (x2 : Int32) {r : UInt32} {k : Nat} (h : f_X9_setTemperature μ x1 x2 = some (μ', r, k)) : vx_Met l yX9_setTemperature (fw_ws yX9_setTemperature cX9_setTemperature 4 (some .float)) ({ frames := 7, cells := 1, slots := 6, locals := 110 } : Room) (va_Pc [.ref (fw_ad E 0 10), .int x1, .int x2] (fw_Pre E o d μ)) (fw_QR E o d k (some (.float r)) μ') (fw_XC E o d k μ') 1 6 (fw_A E) := by
  refine vx_ofW (cc := cX9_setTemperature) (maxL := 4) (ret := (some .float)) (by decide) rfl ?_
  intro p e s m args below meth c s₁ B hml hex hv
  obtain ⟨ha, hK, hP, hSt⟩ := hv
  have hx := B.exec
  have hb := B.bytes
  have hr := B.returns
  have hts := atoms_spec (ws := fw_ws yX9_setTemperature cX9_setTemperature 4 (some .float)) B.pre
  have hU : ∀ w ∈ fw_U, w.before args s = true := fun w hw => hts w (List.mem_cons_of_mem _ hw)
  have hown : s.vm.findClass RX9 = some m.cls := findClass_of_methodNamed B.named
  have hlocks := B.notSynchronized
  have EN : ∀ (H : Heap) (locs : List Loc) (ls : Array Slot), fw_P E o d μ H → va_S (fw_A E) s.heap H locs → lv_has ls 4 [(0, .ref (fw_ad E 0 10)), (1, .int x1), (2, .int x2)] → W p l e (headSpec (fw_ws yX9_setTemperature cX9_setTemperature 4 (some .float)) ({ frames := 7, cells := 1, slots := 6, locals := 110 } : Room)).room s m args below meth c H locs 0 0 (vx_MQ below (fw_QR E o d k (some (.float r)) μ') (fw_XC E o d k μ') args s 1 6 (fw_A E)) (F0 m 0 ls []) := by
    intro H locs ls hP hS hl
    unfold f_X9_setTemperature at h
    refine lv_aload_n hx hb dX9_setTemperature_0 rfl (lv_at hl 0 rfl) ?_
    refine va_get (D := fw_D E) (ci := 7) (v := .ref (fw_ad E 0 0)) (C := RX9) (T := TX9) (N := 9) hx hb hU inU9 hown hK (fw_at hP (fw_V0 (f := 10) (by decide) (by decide))) 0 rfl rfl 0 (by decide) (hU (Cond.fieldLink RX9 12 "LaundryService" "state" "LLaundryService$State;") m_193) (fun _ h9 => h9) rfl dX9_setTemperature_1 ?_
    refine lv_iload_n hx hb dX9_setTemperature_4 rfl (lv_at hl 1 rfl) ?_
    refine lv_iload_n hx hb dX9_setTemperature_5 rfl (lv_at hl 2 rfl) ?_
    obtain ⟨r1, hc1, h⟩ := fw_b1_e h
    refine fw_ret (va_runV (As := [.int x1, .int x2]) (rest := []) ⟨hx, hb, hml, hown, hU⟩ (k_X7_faultOfHeating l hE (by decide) x1 x2 hc1) (cwV 2 hU (fw_gV m_579 m_580 m_581 m_2 m_582) rfl rfl rfl (by decide +kernel) ⟨(Nat.le_of_ble_eq_true rfl), (Nat.le_of_ble_eq_true rfl)⟩) ⟨fw_blind, fw_recv hK hP (fw_Vs (f := 0) (by decide) (by decide)) rfl rfl, fun U hU9 hW9 => ⟨rfl, fw_pre hK hP hSt hS U hU9 hW9⟩⟩ rfl rfl hl.1 rfl (lv_room (Nat.le_of_ble_eq_true rfl)) dX9_setTemperature_6 ⟨Nat.zero_le _, Nat.zero_le _⟩) hS (fun H locs hP hS => ?_)
    obtain ⟨μ2, r2, k2, hc2, h⟩ := fw_b3_e h
    refine fw_xretv (vx_runS (As := [fw_fv E r1]) (rest := []) ⟨hx, hb, hml, hown, hU⟩ (k_X9_raise l hst hE r1 hc2) (va_cwS 1 hU (fw_gS m_439 m_440 m_1 m_441) rfl rfl rfl (by decide +kernel) ⟨(Nat.le_of_ble_eq_true rfl), (Nat.le_of_ble_eq_true rfl)⟩) ⟨fw_blind, fun U hU9 hW9 => ⟨rfl, fw_pre hK hP hSt hS U hU9 hW9⟩⟩ rfl rfl hl.1 rfl (lv_room (Nat.le_of_ble_eq_true rfl)) dX9_setTemperature_9 ⟨(Nat.le_of_ble_eq_true rfl), (Nat.le_of_ble_eq_true rfl)⟩) hS (fun hk2 H locs hP hS => ?_) (fun hk2 H locs q ce hP hS hce hcv hcl => ?_)
    · rw [if_pos hk2] at h
      refine lv_aload_n hx hb dX9_setTemperature_12 rfl (lv_at hl 0 rfl) ?_
      refine va_get (D := fw_D E) (ci := 7) (v := .ref (fw_ad E 0 11)) (C := RX9) (T := TX9) (N := 9) hx hb hU inU9 hown hK (fw_at hP (fw_V0 (f := 10) (by decide) (by decide))) 0 rfl rfl 4 (by decide) (hU (Cond.fieldLink RX9 29 "LaundryService" "history" "LLaundryService$History;") m_197) (fun _ h9 => h9) rfl dX9_setTemperature_13 ?_
      refine lv_aload_n hx hb dX9_setTemperature_16 rfl (lv_at hl 0 rfl) ?_
      refine va_get (D := fw_D E) (ci := 7) (v := .ref (fw_ad E 0 0)) (C := RX9) (T := TX9) (N := 9) hx hb hU inU9 hown hK (fw_at hP (fw_V0 (f := 10) (by decide) (by decide))) 0 rfl rfl 0 (by decide) (hU (Cond.fieldLink RX9 12 "LaundryService" "state" "LLaundryService$State;") m_193) (fun _ h9 => h9) rfl dX9_setTemperature_17 ?_
      obtain ⟨μ3, r3, hc3, h⟩ := fw_b2_e h
      refine fw_retv (va_runV (As := [.ref (fw_ad E 0 0)]) (rest := []) ⟨hx, hb, hml, hown, hU⟩ (k_X3_remember l hE (by decide) hc3) (cwV 1 hU (fw_gV m_508 m_509 m_510 m_3 m_511) rfl rfl rfl (by decide +kernel) ⟨(Nat.le_of_ble_eq_true rfl), (Nat.le_of_ble_eq_true rfl)⟩) ⟨fw_blind, fw_recv hK hP (fw_V0 (f := 11) (by decide) (by decide)) rfl rfl, fun U hU9 hW9 => ⟨rfl, fw_pre hK hP hSt hS U hU9 hW9⟩⟩ rfl rfl hl.1 rfl (lv_room (Nat.le_of_ble_eq_true rfl)) dX9_setTemperature_20 ⟨(Nat.le_of_ble_eq_true rfl), (Nat.le_of_ble_eq_true rfl)⟩) hS (fun H locs hP hS => ?_)
      refine lv_aload_n hx hb dX9_setTemperature_23 rfl (lv_at hl 0 rfl) ?_
      refine va_get (D := fw_D E) (ci := 7) (v := .ref (fw_ad E 0 0)) (C := RX9) (T := TX9) (N := 9) hx hb hU inU9 hown hK (fw_at hP (fw_V0 (f := 10) (by decide) (by decide))) 0 rfl rfl 0 (by decide) (hU (Cond.fieldLink RX9 12 "LaundryService" "state" "LLaundryService$State;") m_193) (fun _ h9 => h9) rfl dX9_setTemperature_24 ?_
      refine lv_iload_n hx hb dX9_setTemperature_27 rfl (lv_at hl 1 rfl) ?_
      obtain ⟨r4, hc4, h⟩ := fw_b1_e h
      refine fw_ret (va_runV (As := [.int x1]) (rest := []) ⟨hx, hb, hml, hown, hU⟩ (k_X7_degrees l hE (by decide) x1 hc4) (cwV 1 hU (fw_gV m_583 m_584 m_585 m_2 m_586) rfl rfl rfl (by decide +kernel) ⟨(Nat.le_of_ble_eq_true rfl), (Nat.le_of_ble_eq_true rfl)⟩) ⟨fw_blind, fw_recv hK hP (fw_Vs (f := 0) (by decide) (by decide)) rfl rfl, fun U hU9 hW9 => ⟨rfl, fw_pre hK hP hSt hS U hU9 hW9⟩⟩ rfl rfl hl.1 rfl (lv_room (Nat.le_of_ble_eq_true rfl)) dX9_setTemperature_28 ⟨(Nat.le_of_ble_eq_true rfl), (Nat.le_of_ble_eq_true rfl)⟩) hS (fun H locs hP hS => ?_)
      refine lv_fstore_n (lv' := [(3, .float r4), (0, .ref (fw_ad E 0 10)), (1, .int x1), (2, .int x2)]) hx hb dX9_setTemperature_31 rfl hl (by decide) rfl (fun ls hl => ?_)
      refine lv_aload_n hx hb dX9_setTemperature_32 rfl (lv_at hl 1 rfl) ?_
      refine va_get (D := fw_D E) (ci := 7) (v := .ref (fw_ad E 0 0)) (C := RX9) (T := TX9) (N := 9) hx hb hU inU9 hown hK (fw_at hP (fw_V0 (f := 10) (by decide) (by decide))) 0 rfl rfl 0 (by decide) (hU (Cond.fieldLink RX9 12 "LaundryService" "state" "LLaundryService$State;") m_193) (fun _ h9 => h9) rfl dX9_setTemperature_33 ?_
      refine va_get (D := fw_D E) (ci := 6) (v := .ref (fw_ad E 0 7)) (C := RX7) (T := TX7) (N := 10) hx hb hU inU7 hown hK (fw_at hP (fw_Vs (f := 0) (by decide) (by decide))) 0 rfl rfl 7 (by decide) (hU (Cond.fieldLink RX9 96 "LaundryService$State" "halves" "[I") m_71) (fun _ h9 => h9) rfl dX9_setTemperature_36 ?_
      refine lv_iload_n hx hb dX9_setTemperature_39 rfl (lv_at hl 2 rfl) ?_
      refine lv_iload_n hx hb dX9_setTemperature_40 rfl (lv_at hl 3 rfl) ?_
      obtain ⟨g5, h⟩ := fw_g_e h
      refine fw_iast (n := 2) hx hb hK hP hE hS (fw_Vs (f := 7) (by decide) (by decide)) (fun _ => rfl) (fw_in_e g5) dX9_setTemperature_41 (fun H locs hP hS => ?_)
      obtain ⟨μ6, eμ6, h⟩ := fw_l_e h
      rw [← eμ6] at hP
      refine lv_fload_n hx hb dX9_setTemperature_42 rfl (lv_at hl 0 rfl) ?_
      refine W.widen (k := 1) (n := 6) (Nat.le_of_ble_eq_true rfl) (Nat.le_of_ble_eq_true rfl) (vx_ret ?_)
      exact W.fret (v := r4) hx hb hr (fw_xw (mk := Value.float) h hP hS) hS.2.2 dX9_setTemperature_43
    · rw [if_neg hk2] at h
      exact vx_out (fun z hz => (hex z hz).elim) hlocks hce hcv hcl (fw_xo h hk2 hP hS) hS.2.2 (Nat.le_of_ble_eq_true rfl) (Nat.le_of_ble_eq_true rfl)
  subst ha
  have hl := lv_entry ([.ref (fw_ad E 0 10), .int x1, .int x2]) (n := 4) (Nat.le_of_ble_eq_true rfl)
  rw [lg_entry_eq]
  generalize (lg_sl ([.ref (fw_ad E 0 10), .int x1, .int x2]) ++ List.replicate (4 - (lg_sl ([.ref (fw_ad E 0 10), .int x1, .int x2])).length) Slot.unset).toArray = ls at hl ⊢
  exact EN s.heap [] ls hP va_S.rf hl
set_option maxHeartbeats 4000000 in
set_option maxRecDepth 100000 in
theorem k_X9_run (l : Launch) (hst : l.stackTraces = false) {E : fw_E} {o : Int64} {d : UInt64} (hE : fw_ok E) {μ μ' : fw_M} (x1 : Int32) {r : Int32} {k : Nat} (h : f_X9_run μ x1 = some (μ', r, k)) : vx_Met l yX9_run (fw_ws yX9_run cX9_run 2 (some .int)) ({ frames := 7, cells := 1, slots := 6, locals := 110 } : Room) (va_Pc [.ref (fw_ad E 0 10), .int x1] (fw_Pre E o d μ)) (fw_QR E o d k (some (.int r)) μ') (fw_XC E o d k μ') 1 6 (fw_A E) := by
  refine vx_ofW (cc := cX9_run) (maxL := 2) (ret := (some .int)) (by decide) rfl ?_
  intro p e s m args below meth c s₁ B hml hex hv
  obtain ⟨ha, hK, hP, hSt⟩ := hv
  have hx := B.exec
  have hb := B.bytes
  have hr := B.returns
  have hts := atoms_spec (ws := fw_ws yX9_run cX9_run 2 (some .int)) B.pre
  have hU : ∀ w ∈ fw_U, w.before args s = true := fun w hw => hts w (List.mem_cons_of_mem _ hw)
  have hown : s.vm.findClass RX9 = some m.cls := findClass_of_methodNamed B.named
  have hlocks := B.notSynchronized
  have EN : ∀ (H : Heap) (locs : List Loc) (ls : Array Slot), fw_P E o d μ H → va_S (fw_A E) s.heap H locs → lv_has ls 2 [(0, .ref (fw_ad E 0 10)), (1, .int x1)] → W p l e (headSpec (fw_ws yX9_run cX9_run 2 (some .int)) ({ frames := 7, cells := 1, slots := 6, locals := 110 } : Room)).room s m args below meth c H locs 0 0 (vx_MQ below (fw_QR E o d k (some (.int r)) μ') (fw_XC E o d k μ') args s 1 6 (fw_A E)) (F0 m 0 ls []) := by
    intro H locs ls hP hS hl
    unfold f_X9_run at h
    refine lv_aload_n hx hb dX9_run_0 rfl (lv_at hl 0 rfl) ?_
    refine va_get (D := fw_D E) (ci := 7) (v := .ref (fw_ad E 0 0)) (C := RX9) (T := TX9) (N := 9) hx hb hU inU9 hown hK (fw_at hP (fw_V0 (f := 10) (by decide) (by decide))) 0 rfl rfl 0 (by decide) (hU (Cond.fieldLink RX9 12 "LaundryService" "state" "LLaundryService$State;") m_193) (fun _ h9 => h9) rfl dX9_run_1 ?_
    refine lv_iload_n hx hb dX9_run_4 rfl (lv_at hl 1 rfl) ?_
    obtain ⟨r1, hc1, h⟩ := fw_b1_e h
    refine fw_ret (va_runV (As := [.int x1]) (rest := []) ⟨hx, hb, hml, hown, hU⟩ (k_X7_faultOfRunning l hE (by decide) x1 hc1) (cwV 1 hU (fw_gV m_594 m_595 m_596 m_2 m_597) rfl rfl rfl (by decide +kernel) ⟨(Nat.le_of_ble_eq_true rfl), (Nat.le_of_ble_eq_true rfl)⟩) ⟨fw_blind, fw_recv hK hP (fw_Vs (f := 0) (by decide) (by decide)) rfl rfl, fun U hU9 hW9 => ⟨rfl, fw_pre hK hP hSt hS U hU9 hW9⟩⟩ rfl rfl hl.1 rfl (lv_room (Nat.le_of_ble_eq_true rfl)) dX9_run_5 ⟨Nat.zero_le _, Nat.zero_le _⟩) hS (fun H locs hP hS => ?_)
    obtain ⟨μ2, r2, k2, hc2, h⟩ := fw_b3_e h
    refine fw_xretv (vx_runS (As := [fw_fv E r1]) (rest := []) ⟨hx, hb, hml, hown, hU⟩ (k_X9_raise l hst hE r1 hc2) (va_cwS 1 hU (fw_gS m_439 m_440 m_1 m_441) rfl rfl rfl (by decide +kernel) ⟨(Nat.le_of_ble_eq_true rfl), (Nat.le_of_ble_eq_true rfl)⟩) ⟨fw_blind, fun U hU9 hW9 => ⟨rfl, fw_pre hK hP hSt hS U hU9 hW9⟩⟩ rfl rfl hl.1 rfl (lv_room (Nat.le_of_ble_eq_true rfl)) dX9_run_8 ⟨(Nat.le_of_ble_eq_true rfl), (Nat.le_of_ble_eq_true rfl)⟩) hS (fun hk2 H locs hP hS => ?_) (fun hk2 H locs q ce hP hS hce hcv hcl => ?_)
    · rw [if_pos hk2] at h
      refine lv_aload_n hx hb dX9_run_11 rfl (lv_at hl 0 rfl) ?_
      refine va_get (D := fw_D E) (ci := 7) (v := .ref (fw_ad E 0 11)) (C := RX9) (T := TX9) (N := 9) hx hb hU inU9 hown hK (fw_at hP (fw_V0 (f := 10) (by decide) (by decide))) 0 rfl rfl 4 (by decide) (hU (Cond.fieldLink RX9 29 "LaundryService" "history" "LLaundryService$History;") m_197) (fun _ h9 => h9) rfl dX9_run_12 ?_
      refine lv_aload_n hx hb dX9_run_15 rfl (lv_at hl 0 rfl) ?_
      refine va_get (D := fw_D E) (ci := 7) (v := .ref (fw_ad E 0 0)) (C := RX9) (T := TX9) (N := 9) hx hb hU inU9 hown hK (fw_at hP (fw_V0 (f := 10) (by decide) (by decide))) 0 rfl rfl 0 (by decide) (hU (Cond.fieldLink RX9 12 "LaundryService" "state" "LLaundryService$State;") m_193) (fun _ h9 => h9) rfl dX9_run_16 ?_
      obtain ⟨μ3, r3, hc3, h⟩ := fw_b2_e h
      refine fw_retv (va_runV (As := [.ref (fw_ad E 0 0)]) (rest := []) ⟨hx, hb, hml, hown, hU⟩ (k_X3_remember l hE (by decide) hc3) (cwV 1 hU (fw_gV m_508 m_509 m_510 m_3 m_511) rfl rfl rfl (by decide +kernel) ⟨(Nat.le_of_ble_eq_true rfl), (Nat.le_of_ble_eq_true rfl)⟩) ⟨fw_blind, fw_recv hK hP (fw_V0 (f := 11) (by decide) (by decide)) rfl rfl, fun U hU9 hW9 => ⟨rfl, fw_pre hK hP hSt hS U hU9 hW9⟩⟩ rfl rfl hl.1 rfl (lv_room (Nat.le_of_ble_eq_true rfl)) dX9_run_19 ⟨(Nat.le_of_ble_eq_true rfl), (Nat.le_of_ble_eq_true rfl)⟩) hS (fun H locs hP hS => ?_)
      refine lv_aload_n hx hb dX9_run_22 rfl (lv_at hl 0 rfl) ?_
      refine va_get (D := fw_D E) (ci := 7) (v := .ref (fw_ad E 0 0)) (C := RX9) (T := TX9) (N := 9) hx hb hU inU9 hown hK (fw_at hP (fw_V0 (f := 10) (by decide) (by decide))) 0 rfl rfl 0 (by decide) (hU (Cond.fieldLink RX9 12 "LaundryService" "state" "LLaundryService$State;") m_193) (fun _ h9 => h9) rfl dX9_run_23 ?_
      refine lv_iload_n hx hb dX9_run_26 rfl (lv_at hl 1 rfl) ?_
      obtain ⟨μ4, r4, hc4, h⟩ := fw_b2_e h
      refine fw_ret (va_runS (As := [.ref (fw_ad E 0 0), .int x1]) (rest := []) ⟨hx, hb, hml, hown, hU⟩ (k_X8_wash l hE (by decide) x1 hc4) (va_cwS 2 hU (fw_gS m_598 m_599 m_23 m_600) rfl rfl rfl (by decide +kernel) ⟨(Nat.le_of_ble_eq_true rfl), (Nat.le_of_ble_eq_true rfl)⟩) ⟨fw_blind, fun U hU9 hW9 => ⟨rfl, fw_pre hK hP hSt hS U hU9 hW9⟩⟩ rfl rfl hl.1 rfl (lv_room (Nat.le_of_ble_eq_true rfl)) dX9_run_27 ⟨(Nat.le_of_ble_eq_true rfl), (Nat.le_of_ble_eq_true rfl)⟩) hS (fun H locs hP hS => ?_)
      refine W.widen (k := 1) (n := 6) (Nat.le_of_ble_eq_true rfl) (Nat.le_of_ble_eq_true rfl) (vx_ret ?_)
      exact W.iret (v := r4) hx hb hr (fw_xw (mk := Value.int) h hP hS) hS.2.2 dX9_run_30
    · rw [if_neg hk2] at h
      exact vx_out (fun z hz => (hex z hz).elim) hlocks hce hcv hcl (fw_xo h hk2 hP hS) hS.2.2 (Nat.le_of_ble_eq_true rfl) (Nat.le_of_ble_eq_true rfl)
  subst ha
  have hl := lv_entry ([.ref (fw_ad E 0 10), .int x1]) (n := 2) (Nat.le_of_ble_eq_true rfl)
  rw [lg_entry_eq]
  generalize (lg_sl ([.ref (fw_ad E 0 10), .int x1]) ++ List.replicate (2 - (lg_sl ([.ref (fw_ad E 0 10), .int x1])).length) Slot.unset).toArray = ls at hl ⊢
  exact EN s.heap [] ls hP va_S.rf hl
set_option maxHeartbeats 4000000 in
set_option maxRecDepth 100000 in
theorem k_X9_garmentCount (l : Launch) {E : fw_E} {o : Int64} {d : UInt64} (hE : fw_ok E) {μ : fw_M} {r : Int32} (h : f_X9_garmentCount μ = some r) : Met l yX9_garmentCount (fw_ws yX9_garmentCount cX9_garmentCount 1 (some .int)) ({ frames := 0, cells := 0, slots := 0, locals := 0 } : Room) (va_Pc [.ref (fw_ad E 0 10)] (fw_Pre E o d μ)) (fw_Q E o d (some (.int r)) μ) 0 0 (fw_A E) := by
  refine Met.ofW (cc := cX9_garmentCount) (maxL := 1) (ret := (some .int)) (by decide) rfl ?_
  intro p e s m args below meth c s₁ B hml hv
  obtain ⟨ha, hK, hP, hSt⟩ := hv
  have hx := B.exec
  have hb := B.bytes
  have hr := B.returns
  have hts := atoms_spec (ws := fw_ws yX9_garmentCount cX9_garmentCount 1 (some .int)) B.pre
  have hU : ∀ w ∈ fw_U, w.before args s = true := fun w hw => hts w (List.mem_cons_of_mem _ hw)
  have hown : s.vm.findClass RX9 = some m.cls := findClass_of_methodNamed B.named
  have hlocks := B.notSynchronized
  have EN : ∀ (H : Heap) (locs : List Loc) (ls : Array Slot), fw_P E o d μ H → va_S (fw_A E) s.heap H locs → lv_has ls 1 [(0, .ref (fw_ad E 0 10))] → W p l e (headSpec (fw_ws yX9_garmentCount cX9_garmentCount 1 (some .int)) ({ frames := 0, cells := 0, slots := 0, locals := 0 } : Room)).room s m args below meth c H locs 0 0 (MQ below (fw_Q E o d (some (.int r)) μ) args s 0 0 (fw_A E)) (F0 m 0 ls []) := by
    intro H locs ls hP hS hl
    unfold f_X9_garmentCount at h
    refine lv_aload_n hx hb dX9_garmentCount_0 rfl (lv_at hl 0 rfl) ?_
    refine va_get (D := fw_D E) (ci := 7) (v := .ref (fw_ad E 0 0)) (C := RX9) (T := TX9) (N := 9) hx hb hU inU9 hown hK (fw_at hP (fw_V0 (f := 10) (by decide) (by decide))) 0 rfl rfl 0 (by decide) (hU (Cond.fieldLink RX9 12 "LaundryService" "state" "LLaundryService$State;") m_193) (fun _ h9 => h9) rfl dX9_garmentCount_1 ?_
    refine va_get (D := fw_D E) (ci := 6) (v := .int (μ 0 0 6)) (C := RX7) (T := TX7) (N := 10) hx hb hU inU7 hown hK (fw_at hP (fw_Vs (f := 0) (by decide) (by decide))) 0 rfl rfl 6 (by decide) (hU (Cond.fieldLink RX9 109 "LaundryService$State" "garmentCount" "I") m_68) (fun _ h9 => h9) rfl dX9_garmentCount_4 ?_
    exact W.iret (v := (μ 0 0 6)) hx hb hr (fw_er (mk := Value.int) h hP hS) hS.2.2 dX9_garmentCount_7
  subst ha
  have hl := lv_entry ([.ref (fw_ad E 0 10)]) (n := 1) (Nat.le_of_ble_eq_true rfl)
  rw [lg_entry_eq]
  generalize (lg_sl ([.ref (fw_ad E 0 10)]) ++ List.replicate (1 - (lg_sl ([.ref (fw_ad E 0 10)])).length) Slot.unset).toArray = ls at hl ⊢
  exact EN s.heap [] ls hP va_S.rf hl
set_option maxHeartbeats 4000000 in
set_option maxRecDepth 100000 in
theorem k_X9_requireGarment (l : Launch) (hst : l.stackTraces = false) {E : fw_E} {o : Int64} {d : UInt64} (hE : fw_ok E) {μ μ' : fw_M} (x1 : Int32) {r : Unit} {k : Nat} (h : f_X9_requireGarment μ x1 = some (μ', r, k)) : vx_Met l yX9_requireGarment (fw_ws yX9_requireGarment cX9_requireGarment 2 none) ({ frames := 6, cells := 1, slots := 6, locals := 90 } : Room) (va_Pc [.ref (fw_ad E 0 10), .int x1] (fw_Pre E o d μ)) (fw_QR E o d k none μ') (fw_XC E o d k μ') 1 6 (fw_A E) := by
  refine vx_ofW (cc := cX9_requireGarment) (maxL := 2) (ret := none) (by decide) rfl ?_
  intro p e s m args below meth c s₁ B hml hex hv
  obtain ⟨ha, hK, hP, hSt⟩ := hv
  have hx := B.exec
  have hb := B.bytes
  have hr := B.returns
  have hts := atoms_spec (ws := fw_ws yX9_requireGarment cX9_requireGarment 2 none) B.pre
  have hU : ∀ w ∈ fw_U, w.before args s = true := fun w hw => hts w (List.mem_cons_of_mem _ hw)
  have hown : s.vm.findClass RX9 = some m.cls := findClass_of_methodNamed B.named
  have hlocks := B.notSynchronized
  have EN : ∀ (H : Heap) (locs : List Loc) (ls : Array Slot), fw_P E o d μ H → va_S (fw_A E) s.heap H locs → lv_has ls 2 [(0, .ref (fw_ad E 0 10)), (1, .int x1)] → W p l e (headSpec (fw_ws yX9_requireGarment cX9_requireGarment 2 none) ({ frames := 6, cells := 1, slots := 6, locals := 90 } : Room)).room s m args below meth c H locs 0 0 (vx_MQ below (fw_QR E o d k none μ') (fw_XC E o d k μ') args s 1 6 (fw_A E)) (F0 m 0 ls []) := by
    intro H locs ls hP hS hl
    unfold f_X9_requireGarment at h
    refine lv_aload_n hx hb dX9_requireGarment_0 rfl (lv_at hl 0 rfl) ?_
    refine va_get (D := fw_D E) (ci := 7) (v := .ref (fw_ad E 0 0)) (C := RX9) (T := TX9) (N := 9) hx hb hU inU9 hown hK (fw_at hP (fw_V0 (f := 10) (by decide) (by decide))) 0 rfl rfl 0 (by decide) (hU (Cond.fieldLink RX9 12 "LaundryService" "state" "LLaundryService$State;") m_193) (fun _ h9 => h9) rfl dX9_requireGarment_1 ?_
    refine lv_iload_n hx hb dX9_requireGarment_4 rfl (lv_at hl 1 rfl) ?_
    obtain ⟨r1, hc1, h⟩ := fw_b1_e h
    refine fw_ret (va_runV (As := [.int x1]) (rest := []) ⟨hx, hb, hml, hown, hU⟩ (k_X7_isGarment l hE (by decide) x1 hc1) (cwV 1 hU (fw_gV m_629 m_545 m_546 m_2 m_547) rfl rfl rfl (by decide +kernel) ⟨(Nat.le_of_ble_eq_true rfl), (Nat.le_of_ble_eq_true rfl)⟩) ⟨fw_blind, fw_recv hK hP (fw_Vs (f := 0) (by decide) (by decide)) rfl rfl, fun U hU9 hW9 => ⟨rfl, fw_pre hK hP hSt hS U hU9 hW9⟩⟩ rfl rfl hl.1 rfl (lv_room (Nat.le_of_ble_eq_true rfl)) dX9_requireGarment_5 ⟨Nat.zero_le _, Nat.zero_le _⟩) hS (fun H locs hP hS => ?_)
    refine lv_if_ne (tgt := 22) hx hb dX9_requireGarment_8 (by decide) (fun c2 => ?_) (fun c2 => ?_)
    · rw [if_neg c2] at h
      refine W.widen (k := 1) (n := 6) (Nat.le_of_ble_eq_true rfl) (Nat.le_of_ble_eq_true rfl) (vx_ret ?_)
      exact W.vret hx hb hr (fw_xv h hP hS) hS.2.2 dX9_requireGarment_22
    · rw [if_pos c2] at h
      exact fw_throwW hx hb hst hown hU hSt hP hS (m_443) (m_13) (List.mem_of_getElem? (i := 15) rfl) thr_307 (hl.1.trans hml.symm) dX9_requireGarment_11 dX9_requireGarment_14 dX9_requireGarment_15 dX9_requireGarment_18 dX9_requireGarment_21 hex (Nat.le_of_ble_eq_true rfl) (Nat.le_of_ble_eq_true rfl) (Nat.le_of_ble_eq_true rfl) (Nat.le_of_ble_eq_true rfl) hlocks h (by decide) rfl (Nat.le_of_ble_eq_true rfl) (Nat.le_of_ble_eq_true rfl)
  subst ha
  have hl := lv_entry ([.ref (fw_ad E 0 10), .int x1]) (n := 2) (Nat.le_of_ble_eq_true rfl)
  rw [lg_entry_eq]
  generalize (lg_sl ([.ref (fw_ad E 0 10), .int x1]) ++ List.replicate (2 - (lg_sl ([.ref (fw_ad E 0 10), .int x1])).length) Slot.unset).toArray = ls at hl ⊢
  exact EN s.heap [] ls hP va_S.rf hl
set_option maxHeartbeats 4000000 in
set_option maxRecDepth 100000 in
theorem k_X9_client (l : Launch) (hst : l.stackTraces = false) {E : fw_E} {o : Int64} {d : UInt64} (hE : fw_ok E) {μ μ' : fw_M} (x1 : Int32) {r : Int32} {k : Nat} (h : f_X9_client μ x1 = some (μ', r, k)) : vx_Met l yX9_client (fw_ws yX9_client cX9_client 2 (some .int)) ({ frames := 7, cells := 1, slots := 6, locals := 111 } : Room) (va_Pc [.ref (fw_ad E 0 10), .int x1] (fw_Pre E o d μ)) (fw_QR E o d k (some (.int r)) μ') (fw_XC E o d k μ') 1 6 (fw_A E) := by
  refine vx_ofW (cc := cX9_client) (maxL := 2) (ret := (some .int)) (by decide) rfl ?_
  intro p e s m args below meth c s₁ B hml hex hv
  obtain ⟨ha, hK, hP, hSt⟩ := hv
  have hx := B.exec
  have hb := B.bytes
  have hr := B.returns
  have hts := atoms_spec (ws := fw_ws yX9_client cX9_client 2 (some .int)) B.pre
  have hU : ∀ w ∈ fw_U, w.before args s = true := fun w hw => hts w (List.mem_cons_of_mem _ hw)
  have hown : s.vm.findClass RX9 = some m.cls := findClass_of_methodNamed B.named
  have hlocks := B.notSynchronized
  have EN : ∀ (H : Heap) (locs : List Loc) (ls : Array Slot), fw_P E o d μ H → va_S (fw_A E) s.heap H locs → lv_has ls 2 [(0, .ref (fw_ad E 0 10)), (1, .int x1)] → W p l e (headSpec (fw_ws yX9_client cX9_client 2 (some .int)) ({ frames := 7, cells := 1, slots := 6, locals := 111 } : Room)).room s m args below meth c H locs 0 0 (vx_MQ below (fw_QR E o d k (some (.int r)) μ') (fw_XC E o d k μ') args s 1 6 (fw_A E)) (F0 m 0 ls []) := by
    intro H locs ls hP hS hl
    unfold f_X9_client at h
    refine lv_aload_n hx hb dX9_client_0 rfl (lv_at hl 0 rfl) ?_
    refine lv_iload_n hx hb dX9_client_1 rfl (lv_at hl 1 rfl) ?_
    obtain ⟨μ1, r1, k1, hc1, h⟩ := fw_b3_e h
    refine fw_xretv (vx_runV (As := [.int x1]) (rest := []) ⟨hx, hb, hml, hown, hU⟩ (k_X9_requireGarment l hst hE x1 hc1) (cwV 1 hU (fw_gV m_625 m_627 ms_4 m_1 m_628) rfl rfl rfl (by decide +kernel) ⟨(Nat.le_of_ble_eq_true rfl), (Nat.le_of_ble_eq_true rfl)⟩) ⟨fw_blind, fw_recv hK hP (fw_V0 (f := 10) (by decide) (by decide)) rfl rfl, fun U hU9 hW9 => ⟨rfl, fw_pre hK hP hSt hS U hU9 hW9⟩⟩ rfl rfl hl.1 rfl (lv_room (Nat.le_of_ble_eq_true rfl)) dX9_client_2 ⟨(Nat.le_of_ble_eq_true rfl), (Nat.le_of_ble_eq_true rfl)⟩) hS (fun hk1 H locs hP hS => ?_) (fun hk1 H locs q ce hP hS hce hcv hcl => ?_)
    · rw [if_pos hk1] at h
      refine lv_aload_n hx hb dX9_client_5 rfl (lv_at hl 0 rfl) ?_
      refine va_get (D := fw_D E) (ci := 7) (v := .ref (fw_ad E 0 0)) (C := RX9) (T := TX9) (N := 9) hx hb hU inU9 hown hK (fw_at hP (fw_V0 (f := 10) (by decide) (by decide))) 0 rfl rfl 0 (by decide) (hU (Cond.fieldLink RX9 12 "LaundryService" "state" "LLaundryService$State;") m_193) (fun _ h9 => h9) rfl dX9_client_6 ?_
      refine va_get (D := fw_D E) (ci := 6) (v := .ref (fw_ad E 0 1)) (C := RX7) (T := TX7) (N := 10) hx hb hU inU7 hown hK (fw_at hP (fw_Vs (f := 0) (by decide) (by decide))) 0 rfl rfl 0 (by decide) (hU (Cond.fieldLink RX9 116 "LaundryService$State" "clients" "[I") m_47) (fun _ h9 => h9) rfl dX9_client_9 ?_
      refine lv_iload_n hx hb dX9_client_12 rfl (lv_at hl 1 rfl) ?_
      obtain ⟨g2, h⟩ := fw_g_e h
      refine va_iald (D := fw_D E) hx hb hK (fw_at hP (fw_Vs (f := 1) (by decide) (by decide))) 0 0 rfl rfl (fw_in_e g2) dX9_client_13 ?_
      refine W.widen (k := 1) (n := 6) (Nat.le_of_ble_eq_true rfl) (Nat.le_of_ble_eq_true rfl) (vx_ret ?_)
      exact W.iret (v := (μ1 0 1 x1.toNatClampNeg)) hx hb hr (fw_xw (mk := Value.int) h hP hS) hS.2.2 dX9_client_14
    · rw [if_neg hk1] at h
      exact vx_out (fun z hz => (hex z hz).elim) hlocks hce hcv hcl (fw_xo h hk1 hP hS) hS.2.2 (Nat.le_of_ble_eq_true rfl) (Nat.le_of_ble_eq_true rfl)
  subst ha
  have hl := lv_entry ([.ref (fw_ad E 0 10), .int x1]) (n := 2) (Nat.le_of_ble_eq_true rfl)
  rw [lg_entry_eq]
  generalize (lg_sl ([.ref (fw_ad E 0 10), .int x1]) ++ List.replicate (2 - (lg_sl ([.ref (fw_ad E 0 10), .int x1])).length) Slot.unset).toArray = ls at hl ⊢
  exact EN s.heap [] ls hP va_S.rf hl
set_option maxHeartbeats 4000000 in
set_option maxRecDepth 100000 in
theorem k_X9_isSock (l : Launch) (hst : l.stackTraces = false) {E : fw_E} {o : Int64} {d : UInt64} (hE : fw_ok E) {μ μ' : fw_M} (x1 : Int32) {r : Int32} {k : Nat} (h : f_X9_isSock μ x1 = some (μ', r, k)) : vx_Met l yX9_isSock (fw_ws yX9_isSock cX9_isSock 2 (some .boolean)) ({ frames := 7, cells := 1, slots := 6, locals := 111 } : Room) (va_Pc [.ref (fw_ad E 0 10), .int x1] (fw_Pre E o d μ)) (fw_QR E o d k (some (.int r)) μ') (fw_XC E o d k μ') 1 6 (fw_A E) := by
  refine vx_ofW (cc := cX9_isSock) (maxL := 2) (ret := (some .boolean)) (by decide) rfl ?_
  intro p e s m args below meth c s₁ B hml hex hv
  obtain ⟨ha, hK, hP, hSt⟩ := hv
  have hx := B.exec
  have hb := B.bytes
  have hr := B.returns
  have hts := atoms_spec (ws := fw_ws yX9_isSock cX9_isSock 2 (some .boolean)) B.pre
  have hU : ∀ w ∈ fw_U, w.before args s = true := fun w hw => hts w (List.mem_cons_of_mem _ hw)
  have hown : s.vm.findClass RX9 = some m.cls := findClass_of_methodNamed B.named
  have hlocks := B.notSynchronized
  have EN : ∀ (H : Heap) (locs : List Loc) (ls : Array Slot), fw_P E o d μ H → va_S (fw_A E) s.heap H locs → lv_has ls 2 [(0, .ref (fw_ad E 0 10)), (1, .int x1)] → W p l e (headSpec (fw_ws yX9_isSock cX9_isSock 2 (some .boolean)) ({ frames := 7, cells := 1, slots := 6, locals := 111 } : Room)).room s m args below meth c H locs 0 0 (vx_MQ below (fw_QR E o d k (some (.int r)) μ') (fw_XC E o d k μ') args s 1 6 (fw_A E)) (F0 m 0 ls []) := by
    intro H locs ls hP hS hl
    unfold f_X9_isSock at h
    refine lv_aload_n hx hb dX9_isSock_0 rfl (lv_at hl 0 rfl) ?_
    refine lv_iload_n hx hb dX9_isSock_1 rfl (lv_at hl 1 rfl) ?_
    obtain ⟨μ1, r1, k1, hc1, h⟩ := fw_b3_e h
    refine fw_xretv (vx_runV (As := [.int x1]) (rest := []) ⟨hx, hb, hml, hown, hU⟩ (k_X9_requireGarment l hst hE x1 hc1) (cwV 1 hU (fw_gV m_625 m_627 ms_4 m_1 m_628) rfl rfl rfl (by decide +kernel) ⟨(Nat.le_of_ble_eq_true rfl), (Nat.le_of_ble_eq_true rfl)⟩) ⟨fw_blind, fw_recv hK hP (fw_V0 (f := 10) (by decide) (by decide)) rfl rfl, fun U hU9 hW9 => ⟨rfl, fw_pre hK hP hSt hS U hU9 hW9⟩⟩ rfl rfl hl.1 rfl (lv_room (Nat.le_of_ble_eq_true rfl)) dX9_isSock_2 ⟨(Nat.le_of_ble_eq_true rfl), (Nat.le_of_ble_eq_true rfl)⟩) hS (fun hk1 H locs hP hS => ?_) (fun hk1 H locs q ce hP hS hce hcv hcl => ?_)
    · rw [if_pos hk1] at h
      refine lv_aload_n hx hb dX9_isSock_5 rfl (lv_at hl 0 rfl) ?_
      refine va_get (D := fw_D E) (ci := 7) (v := .ref (fw_ad E 0 0)) (C := RX9) (T := TX9) (N := 9) hx hb hU inU9 hown hK (fw_at hP (fw_V0 (f := 10) (by decide) (by decide))) 0 rfl rfl 0 (by decide) (hU (Cond.fieldLink RX9 12 "LaundryService" "state" "LLaundryService$State;") m_193) (fun _ h9 => h9) rfl dX9_isSock_6 ?_
      refine va_get (D := fw_D E) (ci := 6) (v := .ref (fw_ad E 0 2)) (C := RX7) (T := TX7) (N := 10) hx hb hU inU7 hown hK (fw_at hP (fw_Vs (f := 0) (by decide) (by decide))) 0 rfl rfl 1 (by decide) (hU (Cond.fieldLink RX9 119 "LaundryService$State" "socks" "[Z") m_51) (fun _ h9 => h9) rfl dX9_isSock_9 ?_
      refine lv_iload_n hx hb dX9_isSock_12 rfl (lv_at hl 1 rfl) ?_
      obtain ⟨g2, h⟩ := fw_g_e h
      refine va_zald (D := fw_D E) hx hb hK (fw_at hP (fw_Vs (f := 2) (by decide) (by decide))) 0 1 rfl rfl (fw_in_e g2) dX9_isSock_13 ?_
      obtain ⟨g3, h⟩ := fw_g_e h
      refine W.widen (k := 1) (n := 6) (Nat.le_of_ble_eq_true rfl) (Nat.le_of_ble_eq_true rfl) (vx_ret ?_)
      exact W.zret (v := (μ1 0 2 x1.toNatClampNeg)) hx hb hr (fw_bo_e g3) (fw_xw (mk := Value.int) h hP hS) hS.2.2 dX9_isSock_14
    · rw [if_neg hk1] at h
      exact vx_out (fun z hz => (hex z hz).elim) hlocks hce hcv hcl (fw_xo h hk1 hP hS) hS.2.2 (Nat.le_of_ble_eq_true rfl) (Nat.le_of_ble_eq_true rfl)
  subst ha
  have hl := lv_entry ([.ref (fw_ad E 0 10), .int x1]) (n := 2) (Nat.le_of_ble_eq_true rfl)
  rw [lg_entry_eq]
  generalize (lg_sl ([.ref (fw_ad E 0 10), .int x1]) ++ List.replicate (2 - (lg_sl ([.ref (fw_ad E 0 10), .int x1])).length) Slot.unset).toArray = ls at hl ⊢
  exact EN s.heap [] ls hP va_S.rf hl
set_option maxHeartbeats 4000000 in
set_option maxRecDepth 100000 in
theorem k_X9_colour (l : Launch) (hst : l.stackTraces = false) {E : fw_E} {o : Int64} {d : UInt64} (hE : fw_ok E) {μ μ' : fw_M} (x1 : Int32) {r : Int32} {k : Nat} (h : f_X9_colour μ x1 = some (μ', r, k)) : vx_Met l yX9_colour (fw_ws yX9_colour cX9_colour 2 (some .int)) ({ frames := 7, cells := 1, slots := 6, locals := 111 } : Room) (va_Pc [.ref (fw_ad E 0 10), .int x1] (fw_Pre E o d μ)) (fw_QR E o d k (some (.int r)) μ') (fw_XC E o d k μ') 1 6 (fw_A E) := by
  refine vx_ofW (cc := cX9_colour) (maxL := 2) (ret := (some .int)) (by decide) rfl ?_
  intro p e s m args below meth c s₁ B hml hex hv
  obtain ⟨ha, hK, hP, hSt⟩ := hv
  have hx := B.exec
  have hb := B.bytes
  have hr := B.returns
  have hts := atoms_spec (ws := fw_ws yX9_colour cX9_colour 2 (some .int)) B.pre
  have hU : ∀ w ∈ fw_U, w.before args s = true := fun w hw => hts w (List.mem_cons_of_mem _ hw)
  have hown : s.vm.findClass RX9 = some m.cls := findClass_of_methodNamed B.named
  have hlocks := B.notSynchronized
  have EN : ∀ (H : Heap) (locs : List Loc) (ls : Array Slot), fw_P E o d μ H → va_S (fw_A E) s.heap H locs → lv_has ls 2 [(0, .ref (fw_ad E 0 10)), (1, .int x1)] → W p l e (headSpec (fw_ws yX9_colour cX9_colour 2 (some .int)) ({ frames := 7, cells := 1, slots := 6, locals := 111 } : Room)).room s m args below meth c H locs 0 0 (vx_MQ below (fw_QR E o d k (some (.int r)) μ') (fw_XC E o d k μ') args s 1 6 (fw_A E)) (F0 m 0 ls []) := by
    intro H locs ls hP hS hl
    unfold f_X9_colour at h
    refine lv_aload_n hx hb dX9_colour_0 rfl (lv_at hl 0 rfl) ?_
    refine lv_iload_n hx hb dX9_colour_1 rfl (lv_at hl 1 rfl) ?_
    obtain ⟨μ1, r1, k1, hc1, h⟩ := fw_b3_e h
    refine fw_xretv (vx_runV (As := [.int x1]) (rest := []) ⟨hx, hb, hml, hown, hU⟩ (k_X9_requireGarment l hst hE x1 hc1) (cwV 1 hU (fw_gV m_625 m_627 ms_4 m_1 m_628) rfl rfl rfl (by decide +kernel) ⟨(Nat.le_of_ble_eq_true rfl), (Nat.le_of_ble_eq_true rfl)⟩) ⟨fw_blind, fw_recv hK hP (fw_V0 (f := 10) (by decide) (by decide)) rfl rfl, fun U hU9 hW9 => ⟨rfl, fw_pre hK hP hSt hS U hU9 hW9⟩⟩ rfl rfl hl.1 rfl (lv_room (Nat.le_of_ble_eq_true rfl)) dX9_colour_2 ⟨(Nat.le_of_ble_eq_true rfl), (Nat.le_of_ble_eq_true rfl)⟩) hS (fun hk1 H locs hP hS => ?_) (fun hk1 H locs q ce hP hS hce hcv hcl => ?_)
    · rw [if_pos hk1] at h
      refine lv_aload_n hx hb dX9_colour_5 rfl (lv_at hl 0 rfl) ?_
      refine va_get (D := fw_D E) (ci := 7) (v := .ref (fw_ad E 0 0)) (C := RX9) (T := TX9) (N := 9) hx hb hU inU9 hown hK (fw_at hP (fw_V0 (f := 10) (by decide) (by decide))) 0 rfl rfl 0 (by decide) (hU (Cond.fieldLink RX9 12 "LaundryService" "state" "LLaundryService$State;") m_193) (fun _ h9 => h9) rfl dX9_colour_6 ?_
      refine va_get (D := fw_D E) (ci := 6) (v := .ref (fw_ad E 0 3)) (C := RX7) (T := TX7) (N := 10) hx hb hU inU7 hown hK (fw_at hP (fw_Vs (f := 0) (by decide) (by decide))) 0 rfl rfl 2 (by decide) (hU (Cond.fieldLink RX9 123 "LaundryService$State" "colours" "[I") m_55) (fun _ h9 => h9) rfl dX9_colour_9 ?_
      refine lv_iload_n hx hb dX9_colour_12 rfl (lv_at hl 1 rfl) ?_
      obtain ⟨g2, h⟩ := fw_g_e h
      refine va_iald (D := fw_D E) hx hb hK (fw_at hP (fw_Vs (f := 3) (by decide) (by decide))) 0 0 rfl rfl (fw_in_e g2) dX9_colour_13 ?_
      refine W.widen (k := 1) (n := 6) (Nat.le_of_ble_eq_true rfl) (Nat.le_of_ble_eq_true rfl) (vx_ret ?_)
      exact W.iret (v := (μ1 0 3 x1.toNatClampNeg)) hx hb hr (fw_xw (mk := Value.int) h hP hS) hS.2.2 dX9_colour_14
    · rw [if_neg hk1] at h
      exact vx_out (fun z hz => (hex z hz).elim) hlocks hce hcv hcl (fw_xo h hk1 hP hS) hS.2.2 (Nat.le_of_ble_eq_true rfl) (Nat.le_of_ble_eq_true rfl)
  subst ha
  have hl := lv_entry ([.ref (fw_ad E 0 10), .int x1]) (n := 2) (Nat.le_of_ble_eq_true rfl)
  rw [lg_entry_eq]
  generalize (lg_sl ([.ref (fw_ad E 0 10), .int x1]) ++ List.replicate (2 - (lg_sl ([.ref (fw_ad E 0 10), .int x1])).length) Slot.unset).toArray = ls at hl ⊢
  exact EN s.heap [] ls hP va_S.rf hl
set_option maxHeartbeats 4000000 in
set_option maxRecDepth 100000 in
theorem k_X9_stains (l : Launch) (hst : l.stackTraces = false) {E : fw_E} {o : Int64} {d : UInt64} (hE : fw_ok E) {μ μ' : fw_M} (x1 : Int32) {r : Int32} {k : Nat} (h : f_X9_stains μ x1 = some (μ', r, k)) : vx_Met l yX9_stains (fw_ws yX9_stains cX9_stains 2 (some .int)) ({ frames := 7, cells := 1, slots := 6, locals := 111 } : Room) (va_Pc [.ref (fw_ad E 0 10), .int x1] (fw_Pre E o d μ)) (fw_QR E o d k (some (.int r)) μ') (fw_XC E o d k μ') 1 6 (fw_A E) := by
  refine vx_ofW (cc := cX9_stains) (maxL := 2) (ret := (some .int)) (by decide) rfl ?_
  intro p e s m args below meth c s₁ B hml hex hv
  obtain ⟨ha, hK, hP, hSt⟩ := hv
  have hx := B.exec
  have hb := B.bytes
  have hr := B.returns
  have hts := atoms_spec (ws := fw_ws yX9_stains cX9_stains 2 (some .int)) B.pre
  have hU : ∀ w ∈ fw_U, w.before args s = true := fun w hw => hts w (List.mem_cons_of_mem _ hw)
  have hown : s.vm.findClass RX9 = some m.cls := findClass_of_methodNamed B.named
  have hlocks := B.notSynchronized
  have EN : ∀ (H : Heap) (locs : List Loc) (ls : Array Slot), fw_P E o d μ H → va_S (fw_A E) s.heap H locs → lv_has ls 2 [(0, .ref (fw_ad E 0 10)), (1, .int x1)] → W p l e (headSpec (fw_ws yX9_stains cX9_stains 2 (some .int)) ({ frames := 7, cells := 1, slots := 6, locals := 111 } : Room)).room s m args below meth c H locs 0 0 (vx_MQ below (fw_QR E o d k (some (.int r)) μ') (fw_XC E o d k μ') args s 1 6 (fw_A E)) (F0 m 0 ls []) := by
    intro H locs ls hP hS hl
    unfold f_X9_stains at h
    refine lv_aload_n hx hb dX9_stains_0 rfl (lv_at hl 0 rfl) ?_
    refine lv_iload_n hx hb dX9_stains_1 rfl (lv_at hl 1 rfl) ?_
    obtain ⟨μ1, r1, k1, hc1, h⟩ := fw_b3_e h
    refine fw_xretv (vx_runV (As := [.int x1]) (rest := []) ⟨hx, hb, hml, hown, hU⟩ (k_X9_requireGarment l hst hE x1 hc1) (cwV 1 hU (fw_gV m_625 m_627 ms_4 m_1 m_628) rfl rfl rfl (by decide +kernel) ⟨(Nat.le_of_ble_eq_true rfl), (Nat.le_of_ble_eq_true rfl)⟩) ⟨fw_blind, fw_recv hK hP (fw_V0 (f := 10) (by decide) (by decide)) rfl rfl, fun U hU9 hW9 => ⟨rfl, fw_pre hK hP hSt hS U hU9 hW9⟩⟩ rfl rfl hl.1 rfl (lv_room (Nat.le_of_ble_eq_true rfl)) dX9_stains_2 ⟨(Nat.le_of_ble_eq_true rfl), (Nat.le_of_ble_eq_true rfl)⟩) hS (fun hk1 H locs hP hS => ?_) (fun hk1 H locs q ce hP hS hce hcv hcl => ?_)
    · rw [if_pos hk1] at h
      refine lv_aload_n hx hb dX9_stains_5 rfl (lv_at hl 0 rfl) ?_
      refine va_get (D := fw_D E) (ci := 7) (v := .ref (fw_ad E 0 0)) (C := RX9) (T := TX9) (N := 9) hx hb hU inU9 hown hK (fw_at hP (fw_V0 (f := 10) (by decide) (by decide))) 0 rfl rfl 0 (by decide) (hU (Cond.fieldLink RX9 12 "LaundryService" "state" "LLaundryService$State;") m_193) (fun _ h9 => h9) rfl dX9_stains_6 ?_
      refine va_get (D := fw_D E) (ci := 6) (v := .ref (fw_ad E 0 4)) (C := RX7) (T := TX7) (N := 10) hx hb hU inU7 hown hK (fw_at hP (fw_Vs (f := 0) (by decide) (by decide))) 0 rfl rfl 3 (by decide) (hU (Cond.fieldLink RX9 126 "LaundryService$State" "stains" "[I") m_58) (fun _ h9 => h9) rfl dX9_stains_9 ?_
      refine lv_iload_n hx hb dX9_stains_12 rfl (lv_at hl 1 rfl) ?_
      obtain ⟨g2, h⟩ := fw_g_e h
      refine va_iald (D := fw_D E) hx hb hK (fw_at hP (fw_Vs (f := 4) (by decide) (by decide))) 0 0 rfl rfl (fw_in_e g2) dX9_stains_13 ?_
      refine W.widen (k := 1) (n := 6) (Nat.le_of_ble_eq_true rfl) (Nat.le_of_ble_eq_true rfl) (vx_ret ?_)
      exact W.iret (v := (μ1 0 4 x1.toNatClampNeg)) hx hb hr (fw_xw (mk := Value.int) h hP hS) hS.2.2 dX9_stains_14
    · rw [if_neg hk1] at h
      exact vx_out (fun z hz => (hex z hz).elim) hlocks hce hcv hcl (fw_xo h hk1 hP hS) hS.2.2 (Nat.le_of_ble_eq_true rfl) (Nat.le_of_ble_eq_true rfl)
  subst ha
  have hl := lv_entry ([.ref (fw_ad E 0 10), .int x1]) (n := 2) (Nat.le_of_ble_eq_true rfl)
  rw [lg_entry_eq]
  generalize (lg_sl ([.ref (fw_ad E 0 10), .int x1]) ++ List.replicate (2 - (lg_sl ([.ref (fw_ad E 0 10), .int x1])).length) Slot.unset).toArray = ls at hl ⊢
  exact EN s.heap [] ls hP va_S.rf hl
set_option maxHeartbeats 4000000 in
set_option maxRecDepth 100000 in
theorem k_X9_stainCount (l : Launch) (hst : l.stackTraces = false) {E : fw_E} {o : Int64} {d : UInt64} (hE : fw_ok E) {μ μ' : fw_M} (x1 : Int32) {r : Int32} {k : Nat} (h : f_X9_stainCount μ x1 = some (μ', r, k)) : vx_Met l yX9_stainCount (fw_ws yX9_stainCount cX9_stainCount 2 (some .int)) ({ frames := 7, cells := 1, slots := 6, locals := 111 } : Room) (va_Pc [.ref (fw_ad E 0 10), .int x1] (fw_Pre E o d μ)) (fw_QR E o d k (some (.int r)) μ') (fw_XC E o d k μ') 1 6 (fw_A E) := by
  refine vx_ofW (cc := cX9_stainCount) (maxL := 2) (ret := (some .int)) (by decide) rfl ?_
  intro p e s m args below meth c s₁ B hml hex hv
  obtain ⟨ha, hK, hP, hSt⟩ := hv
  have hx := B.exec
  have hb := B.bytes
  have hr := B.returns
  have hts := atoms_spec (ws := fw_ws yX9_stainCount cX9_stainCount 2 (some .int)) B.pre
  have hU : ∀ w ∈ fw_U, w.before args s = true := fun w hw => hts w (List.mem_cons_of_mem _ hw)
  have hown : s.vm.findClass RX9 = some m.cls := findClass_of_methodNamed B.named
  have hlocks := B.notSynchronized
  have EN : ∀ (H : Heap) (locs : List Loc) (ls : Array Slot), fw_P E o d μ H → va_S (fw_A E) s.heap H locs → lv_has ls 2 [(0, .ref (fw_ad E 0 10)), (1, .int x1)] → W p l e (headSpec (fw_ws yX9_stainCount cX9_stainCount 2 (some .int)) ({ frames := 7, cells := 1, slots := 6, locals := 111 } : Room)).room s m args below meth c H locs 0 0 (vx_MQ below (fw_QR E o d k (some (.int r)) μ') (fw_XC E o d k μ') args s 1 6 (fw_A E)) (F0 m 0 ls []) := by
    intro H locs ls hP hS hl
    unfold f_X9_stainCount at h
    refine lv_aload_n hx hb dX9_stainCount_0 rfl (lv_at hl 0 rfl) ?_
    refine lv_iload_n hx hb dX9_stainCount_1 rfl (lv_at hl 1 rfl) ?_
    obtain ⟨μ1, r1, k1, hc1, h⟩ := fw_b3_e h
    refine fw_xretv (vx_runV (As := [.int x1]) (rest := []) ⟨hx, hb, hml, hown, hU⟩ (k_X9_requireGarment l hst hE x1 hc1) (cwV 1 hU (fw_gV m_625 m_627 ms_4 m_1 m_628) rfl rfl rfl (by decide +kernel) ⟨(Nat.le_of_ble_eq_true rfl), (Nat.le_of_ble_eq_true rfl)⟩) ⟨fw_blind, fw_recv hK hP (fw_V0 (f := 10) (by decide) (by decide)) rfl rfl, fun U hU9 hW9 => ⟨rfl, fw_pre hK hP hSt hS U hU9 hW9⟩⟩ rfl rfl hl.1 rfl (lv_room (Nat.le_of_ble_eq_true rfl)) dX9_stainCount_2 ⟨(Nat.le_of_ble_eq_true rfl), (Nat.le_of_ble_eq_true rfl)⟩) hS (fun hk1 H locs hP hS => ?_) (fun hk1 H locs q ce hP hS hce hcv hcl => ?_)
    · rw [if_pos hk1] at h
      refine lv_aload_n hx hb dX9_stainCount_5 rfl (lv_at hl 0 rfl) ?_
      refine va_get (D := fw_D E) (ci := 7) (v := .ref (fw_ad E 0 0)) (C := RX9) (T := TX9) (N := 9) hx hb hU inU9 hown hK (fw_at hP (fw_V0 (f := 10) (by decide) (by decide))) 0 rfl rfl 0 (by decide) (hU (Cond.fieldLink RX9 12 "LaundryService" "state" "LLaundryService$State;") m_193) (fun _ h9 => h9) rfl dX9_stainCount_6 ?_
      refine lv_iload_n hx hb dX9_stainCount_9 rfl (lv_at hl 1 rfl) ?_
      obtain ⟨r2, hc2, h⟩ := fw_b1_e h
      refine fw_ret (va_runV (As := [.int x1]) (rest := []) ⟨hx, hb, hml, hown, hU⟩ (k_X7_stainsOn l hE (by decide) x1 hc2) (cwV 1 hU (fw_gV m_659 m_293 m_294 m_2 m_295) rfl rfl rfl (by decide +kernel) ⟨(Nat.le_of_ble_eq_true rfl), (Nat.le_of_ble_eq_true rfl)⟩) ⟨fw_blind, fw_recv hK hP (fw_Vs (f := 0) (by decide) (by decide)) rfl rfl, fun U hU9 hW9 => ⟨rfl, fw_pre hK hP hSt hS U hU9 hW9⟩⟩ rfl rfl hl.1 rfl (lv_room (Nat.le_of_ble_eq_true rfl)) dX9_stainCount_10 ⟨(Nat.le_of_ble_eq_true rfl), (Nat.le_of_ble_eq_true rfl)⟩) hS (fun H locs hP hS => ?_)
      refine W.widen (k := 1) (n := 6) (Nat.le_of_ble_eq_true rfl) (Nat.le_of_ble_eq_true rfl) (vx_ret ?_)
      exact W.iret (v := r2) hx hb hr (fw_xw (mk := Value.int) h hP hS) hS.2.2 dX9_stainCount_13
    · rw [if_neg hk1] at h
      exact vx_out (fun z hz => (hex z hz).elim) hlocks hce hcv hcl (fw_xo h hk1 hP hS) hS.2.2 (Nat.le_of_ble_eq_true rfl) (Nat.le_of_ble_eq_true rfl)
  subst ha
  have hl := lv_entry ([.ref (fw_ad E 0 10), .int x1]) (n := 2) (Nat.le_of_ble_eq_true rfl)
  rw [lg_entry_eq]
  generalize (lg_sl ([.ref (fw_ad E 0 10), .int x1]) ++ List.replicate (2 - (lg_sl ([.ref (fw_ad E 0 10), .int x1])).length) Slot.unset).toArray = ls at hl ⊢
  exact EN s.heap [] ls hP va_S.rf hl
set_option maxHeartbeats 4000000 in
set_option maxRecDepth 100000 in
theorem k_X9_placeSign (l : Launch) {E : fw_E} {o : Int64} {d : UInt64} (hE : fw_ok E) {μ : fw_M} (x0 : Int32) {r : Int32} (h : f_X9_placeSign μ x0 = some r) : Met l yX9_placeSign (fw_ws yX9_placeSign cX9_placeSign 1 (some .char)) ({ frames := 0, cells := 0, slots := 0, locals := 0 } : Room) (va_Pc [.int x0] (fw_Pre E o d μ)) (fw_Q E o d (some (.int r)) μ) 0 0 (fw_A E) := by
  refine Met.ofW (cc := cX9_placeSign) (maxL := 1) (ret := (some .char)) (by decide) rfl ?_
  intro p e s m args below meth c s₁ B hml hv
  obtain ⟨ha, hK, hP, hSt⟩ := hv
  have hx := B.exec
  have hb := B.bytes
  have hr := B.returns
  have hts := atoms_spec (ws := fw_ws yX9_placeSign cX9_placeSign 1 (some .char)) B.pre
  have hU : ∀ w ∈ fw_U, w.before args s = true := fun w hw => hts w (List.mem_cons_of_mem _ hw)
  have hown : s.vm.findClass RX9 = some m.cls := findClass_of_methodNamed B.named
  have hlocks := B.notSynchronized
  have EN : ∀ (H : Heap) (locs : List Loc) (ls : Array Slot), fw_P E o d μ H → va_S (fw_A E) s.heap H locs → lv_has ls 1 [(0, .int x0)] → W p l e (headSpec (fw_ws yX9_placeSign cX9_placeSign 1 (some .char)) ({ frames := 0, cells := 0, slots := 0, locals := 0 } : Room)).room s m args below meth c H locs 0 0 (MQ below (fw_Q E o d (some (.int r)) μ) args s 0 0 (fw_A E)) (F0 m 0 ls []) := by
    intro H locs ls hP hS hl
    unfold f_X9_placeSign at h
    refine lv_iload_n hx hb dX9_placeSign_0 rfl (lv_at hl 0 rfl) ?_
    refine lv_if_ne (tgt := 7) hx hb dX9_placeSign_1 (by decide) (fun c1 => ?_) (fun c1 => ?_)
    · rw [if_neg c1] at h
      refine lv_iload_n hx hb dX9_placeSign_7 rfl (lv_at hl 0 rfl) ?_
      refine lv_iconst (v := (3 : Int32)) hx hb dX9_placeSign_8 (by decide) ?_
      refine lv_icmp_ne (tgt := 17) hx hb dX9_placeSign_9 (by decide) (fun c2 => ?_) (fun c2 => ?_)
      · rw [if_neg c2] at h
        refine lv_bipush (v := (48 : Int32)) hx hb dX9_placeSign_17 (by decide) ?_
        refine lv_iload_n hx hb dX9_placeSign_19 rfl (lv_at hl 0 rfl) ?_
        refine lv_iadd hx hb dX9_placeSign_20 ?_
        refine lv_iconst (v := (1 : Int32)) hx hb dX9_placeSign_21 (by decide) ?_
        refine lv_isub hx hb dX9_placeSign_22 ?_
        refine lv_i2c (v := ((((48 : Int32) + x0) - (1 : Int32)).toUInt32 % 65536).toInt32) hx hb dX9_placeSign_23 rfl ?_
        exact W.zret (v := ((((48 : Int32) + x0) - (1 : Int32)).toUInt32 % 65536).toInt32) hx hb hr (pk_nc _) (fw_er (mk := Value.int) h hP hS) hS.2.2 dX9_placeSign_24
      · rw [if_pos c2] at h
        refine lv_bipush (v := (120 : Int32)) hx hb dX9_placeSign_12 (by decide) ?_
        refine lv_goto (tgt := 24) hx hb dX9_placeSign_14 (by decide) ?_
        exact W.zret (v := (120 : Int32)) hx hb hr rfl (fw_er (mk := Value.int) h hP hS) hS.2.2 dX9_placeSign_24
    · rw [if_pos c1] at h
      refine lv_bipush (v := (98 : Int32)) hx hb dX9_placeSign_4 (by decide) ?_
      exact W.zret (v := (98 : Int32)) hx hb hr rfl (fw_er (mk := Value.int) h hP hS) hS.2.2 dX9_placeSign_6
  subst ha
  have hl := lv_entry ([.int x0]) (n := 1) (Nat.le_of_ble_eq_true rfl)
  rw [lg_entry_eq]
  generalize (lg_sl ([.int x0]) ++ List.replicate (1 - (lg_sl ([.int x0])).length) Slot.unset).toArray = ls at hl ⊢
  exact EN s.heap [] ls hP va_S.rf hl
set_option maxHeartbeats 4000000 in
set_option maxRecDepth 100000 in
theorem k_X9_place (l : Launch) (hst : l.stackTraces = false) {E : fw_E} {o : Int64} {d : UInt64} (hE : fw_ok E) {μ μ' : fw_M} (x1 : Int32) {r : Int32} {k : Nat} (h : f_X9_place μ x1 = some (μ', r, k)) : vx_Met l yX9_place (fw_ws yX9_place cX9_place 2 (some .char)) ({ frames := 7, cells := 1, slots := 6, locals := 111 } : Room) (va_Pc [.ref (fw_ad E 0 10), .int x1] (fw_Pre E o d μ)) (fw_QR E o d k (some (.int r)) μ') (fw_XC E o d k μ') 1 6 (fw_A E) := by
  refine vx_ofW (cc := cX9_place) (maxL := 2) (ret := (some .char)) (by decide) rfl ?_
  intro p e s m args below meth c s₁ B hml hex hv
  obtain ⟨ha, hK, hP, hSt⟩ := hv
  have hx := B.exec
  have hb := B.bytes
  have hr := B.returns
  have hts := atoms_spec (ws := fw_ws yX9_place cX9_place 2 (some .char)) B.pre
  have hU : ∀ w ∈ fw_U, w.before args s = true := fun w hw => hts w (List.mem_cons_of_mem _ hw)
  have hown : s.vm.findClass RX9 = some m.cls := findClass_of_methodNamed B.named
  have hlocks := B.notSynchronized
  have EN : ∀ (H : Heap) (locs : List Loc) (ls : Array Slot), fw_P E o d μ H → va_S (fw_A E) s.heap H locs → lv_has ls 2 [(0, .ref (fw_ad E 0 10)), (1, .int x1)] → W p l e (headSpec (fw_ws yX9_place cX9_place 2 (some .char)) ({ frames := 7, cells := 1, slots := 6, locals := 111 } : Room)).room s m args below meth c H locs 0 0 (vx_MQ below (fw_QR E o d k (some (.int r)) μ') (fw_XC E o d k μ') args s 1 6 (fw_A E)) (F0 m 0 ls []) := by
    intro H locs ls hP hS hl
    unfold f_X9_place at h
    refine lv_aload_n hx hb dX9_place_0 rfl (lv_at hl 0 rfl) ?_
    refine lv_iload_n hx hb dX9_place_1 rfl (lv_at hl 1 rfl) ?_
    obtain ⟨μ1, r1, k1, hc1, h⟩ := fw_b3_e h
    refine fw_xretv (vx_runV (As := [.int x1]) (rest := []) ⟨hx, hb, hml, hown, hU⟩ (k_X9_requireGarment l hst hE x1 hc1) (cwV 1 hU (fw_gV m_625 m_627 ms_4 m_1 m_628) rfl rfl rfl (by decide +kernel) ⟨(Nat.le_of_ble_eq_true rfl), (Nat.le_of_ble_eq_true rfl)⟩) ⟨fw_blind, fw_recv hK hP (fw_V0 (f := 10) (by decide) (by decide)) rfl rfl, fun U hU9 hW9 => ⟨rfl, fw_pre hK hP hSt hS U hU9 hW9⟩⟩ rfl rfl hl.1 rfl (lv_room (Nat.le_of_ble_eq_true rfl)) dX9_place_2 ⟨(Nat.le_of_ble_eq_true rfl), (Nat.le_of_ble_eq_true rfl)⟩) hS (fun hk1 H locs hP hS => ?_) (fun hk1 H locs q ce hP hS hce hcv hcl => ?_)
    · rw [if_pos hk1] at h
      refine lv_aload_n hx hb dX9_place_5 rfl (lv_at hl 0 rfl) ?_
      refine va_get (D := fw_D E) (ci := 7) (v := .ref (fw_ad E 0 0)) (C := RX9) (T := TX9) (N := 9) hx hb hU inU9 hown hK (fw_at hP (fw_V0 (f := 10) (by decide) (by decide))) 0 rfl rfl 0 (by decide) (hU (Cond.fieldLink RX9 12 "LaundryService" "state" "LLaundryService$State;") m_193) (fun _ h9 => h9) rfl dX9_place_6 ?_
      refine va_get (D := fw_D E) (ci := 6) (v := .ref (fw_ad E 0 5)) (C := RX7) (T := TX7) (N := 10) hx hb hU inU7 hown hK (fw_at hP (fw_Vs (f := 0) (by decide) (by decide))) 0 rfl rfl 4 (by decide) (hU (Cond.fieldLink RX9 132 "LaundryService$State" "places" "[I") m_61) (fun _ h9 => h9) rfl dX9_place_9 ?_
      refine lv_iload_n hx hb dX9_place_12 rfl (lv_at hl 1 rfl) ?_
      obtain ⟨g2, h⟩ := fw_g_e h
      refine va_iald (D := fw_D E) hx hb hK (fw_at hP (fw_Vs (f := 5) (by decide) (by decide))) 0 0 rfl rfl (fw_in_e g2) dX9_place_13 ?_
      obtain ⟨r3, hc3, h⟩ := fw_b1_e h
      refine fw_ret (va_runS (As := [.int (μ1 0 5 x1.toNatClampNeg)]) (rest := []) ⟨hx, hb, hml, hown, hU⟩ (k_X9_placeSign l hE (μ1 0 5 x1.toNatClampNeg) hc3) (va_cwS 1 hU (fw_gS m_667 m_668 m_1 m_669) rfl rfl rfl (by decide +kernel) ⟨(Nat.le_of_ble_eq_true rfl), (Nat.le_of_ble_eq_true rfl)⟩) ⟨fw_blind, fun U hU9 hW9 => ⟨rfl, fw_pre hK hP hSt hS U hU9 hW9⟩⟩ rfl rfl hl.1 rfl (lv_room (Nat.le_of_ble_eq_true rfl)) dX9_place_14 ⟨(Nat.le_of_ble_eq_true rfl), (Nat.le_of_ble_eq_true rfl)⟩) hS (fun H locs hP hS => ?_)
      obtain ⟨g4, h⟩ := fw_g_e h
      refine W.widen (k := 1) (n := 6) (Nat.le_of_ble_eq_true rfl) (Nat.le_of_ble_eq_true rfl) (vx_ret ?_)
      exact W.zret (v := r3) hx hb hr (fw_ch_e g4) (fw_xw (mk := Value.int) h hP hS) hS.2.2 dX9_place_17
    · rw [if_neg hk1] at h
      exact vx_out (fun z hz => (hex z hz).elim) hlocks hce hcv hcl (fw_xo h hk1 hP hS) hS.2.2 (Nat.le_of_ble_eq_true rfl) (Nat.le_of_ble_eq_true rfl)
  subst ha
  have hl := lv_entry ([.ref (fw_ad E 0 10), .int x1]) (n := 2) (Nat.le_of_ble_eq_true rfl)
  rw [lg_entry_eq]
  generalize (lg_sl ([.ref (fw_ad E 0 10), .int x1]) ++ List.replicate (2 - (lg_sl ([.ref (fw_ad E 0 10), .int x1])).length) Slot.unset).toArray = ls at hl ⊢
  exact EN s.heap [] ls hP va_S.rf hl
set_option maxHeartbeats 4000000 in
set_option maxRecDepth 100000 in
theorem k_X9_washes (l : Launch) (hst : l.stackTraces = false) {E : fw_E} {o : Int64} {d : UInt64} (hE : fw_ok E) {μ μ' : fw_M} (x1 : Int32) {r : Int32} {k : Nat} (h : f_X9_washes μ x1 = some (μ', r, k)) : vx_Met l yX9_washes (fw_ws yX9_washes cX9_washes 2 (some .int)) ({ frames := 7, cells := 1, slots := 6, locals := 111 } : Room) (va_Pc [.ref (fw_ad E 0 10), .int x1] (fw_Pre E o d μ)) (fw_QR E o d k (some (.int r)) μ') (fw_XC E o d k μ') 1 6 (fw_A E) := by
  refine vx_ofW (cc := cX9_washes) (maxL := 2) (ret := (some .int)) (by decide) rfl ?_
  intro p e s m args below meth c s₁ B hml hex hv
  obtain ⟨ha, hK, hP, hSt⟩ := hv
  have hx := B.exec
  have hb := B.bytes
  have hr := B.returns
  have hts := atoms_spec (ws := fw_ws yX9_washes cX9_washes 2 (some .int)) B.pre
  have hU : ∀ w ∈ fw_U, w.before args s = true := fun w hw => hts w (List.mem_cons_of_mem _ hw)
  have hown : s.vm.findClass RX9 = some m.cls := findClass_of_methodNamed B.named
  have hlocks := B.notSynchronized
  have EN : ∀ (H : Heap) (locs : List Loc) (ls : Array Slot), fw_P E o d μ H → va_S (fw_A E) s.heap H locs → lv_has ls 2 [(0, .ref (fw_ad E 0 10)), (1, .int x1)] → W p l e (headSpec (fw_ws yX9_washes cX9_washes 2 (some .int)) ({ frames := 7, cells := 1, slots := 6, locals := 111 } : Room)).room s m args below meth c H locs 0 0 (vx_MQ below (fw_QR E o d k (some (.int r)) μ') (fw_XC E o d k μ') args s 1 6 (fw_A E)) (F0 m 0 ls []) := by
    intro H locs ls hP hS hl
    unfold f_X9_washes at h
    refine lv_aload_n hx hb dX9_washes_0 rfl (lv_at hl 0 rfl) ?_
    refine lv_iload_n hx hb dX9_washes_1 rfl (lv_at hl 1 rfl) ?_
    obtain ⟨μ1, r1, k1, hc1, h⟩ := fw_b3_e h
    refine fw_xretv (vx_runV (As := [.int x1]) (rest := []) ⟨hx, hb, hml, hown, hU⟩ (k_X9_requireGarment l hst hE x1 hc1) (cwV 1 hU (fw_gV m_625 m_627 ms_4 m_1 m_628) rfl rfl rfl (by decide +kernel) ⟨(Nat.le_of_ble_eq_true rfl), (Nat.le_of_ble_eq_true rfl)⟩) ⟨fw_blind, fw_recv hK hP (fw_V0 (f := 10) (by decide) (by decide)) rfl rfl, fun U hU9 hW9 => ⟨rfl, fw_pre hK hP hSt hS U hU9 hW9⟩⟩ rfl rfl hl.1 rfl (lv_room (Nat.le_of_ble_eq_true rfl)) dX9_washes_2 ⟨(Nat.le_of_ble_eq_true rfl), (Nat.le_of_ble_eq_true rfl)⟩) hS (fun hk1 H locs hP hS => ?_) (fun hk1 H locs q ce hP hS hce hcv hcl => ?_)
    · rw [if_pos hk1] at h
      refine lv_aload_n hx hb dX9_washes_5 rfl (lv_at hl 0 rfl) ?_
      refine va_get (D := fw_D E) (ci := 7) (v := .ref (fw_ad E 0 0)) (C := RX9) (T := TX9) (N := 9) hx hb hU inU9 hown hK (fw_at hP (fw_V0 (f := 10) (by decide) (by decide))) 0 rfl rfl 0 (by decide) (hU (Cond.fieldLink RX9 12 "LaundryService" "state" "LLaundryService$State;") m_193) (fun _ h9 => h9) rfl dX9_washes_6 ?_
      refine va_get (D := fw_D E) (ci := 6) (v := .ref (fw_ad E 0 6)) (C := RX7) (T := TX7) (N := 10) hx hb hU inU7 hown hK (fw_at hP (fw_Vs (f := 0) (by decide) (by decide))) 0 rfl rfl 5 (by decide) (hU (Cond.fieldLink RX9 139 "LaundryService$State" "washes" "[I") m_64) (fun _ h9 => h9) rfl dX9_washes_9 ?_
      refine lv_iload_n hx hb dX9_washes_12 rfl (lv_at hl 1 rfl) ?_
      obtain ⟨g2, h⟩ := fw_g_e h
      refine va_iald (D := fw_D E) hx hb hK (fw_at hP (fw_Vs (f := 6) (by decide) (by decide))) 0 0 rfl rfl (fw_in_e g2) dX9_washes_13 ?_
      refine W.widen (k := 1) (n := 6) (Nat.le_of_ble_eq_true rfl) (Nat.le_of_ble_eq_true rfl) (vx_ret ?_)
      exact W.iret (v := (μ1 0 6 x1.toNatClampNeg)) hx hb hr (fw_xw (mk := Value.int) h hP hS) hS.2.2 dX9_washes_14
    · rw [if_neg hk1] at h
      exact vx_out (fun z hz => (hex z hz).elim) hlocks hce hcv hcl (fw_xo h hk1 hP hS) hS.2.2 (Nat.le_of_ble_eq_true rfl) (Nat.le_of_ble_eq_true rfl)
  subst ha
  have hl := lv_entry ([.ref (fw_ad E 0 10), .int x1]) (n := 2) (Nat.le_of_ble_eq_true rfl)
  rw [lg_entry_eq]
  generalize (lg_sl ([.ref (fw_ad E 0 10), .int x1]) ++ List.replicate (2 - (lg_sl ([.ref (fw_ad E 0 10), .int x1])).length) Slot.unset).toArray = ls at hl ⊢
  exact EN s.heap [] ls hP va_S.rf hl
set_option maxHeartbeats 4000000 in
set_option maxRecDepth 100000 in
theorem k_X9_packed (l : Launch) (hst : l.stackTraces = false) {E : fw_E} {o : Int64} {d : UInt64} (hE : fw_ok E) {μ μ' : fw_M} (x1 : Int32) {r : Int64} {k : Nat} (h : f_X9_packed μ x1 = some (μ', r, k)) : vx_Met l yX9_packed (fw_ws yX9_packed cX9_packed 2 (some .long)) ({ frames := 7, cells := 1, slots := 6, locals := 111 } : Room) (va_Pc [.ref (fw_ad E 0 10), .int x1] (fw_Pre E o d μ)) (fw_QR E o d k (some (.long r)) μ') (fw_XC E o d k μ') 1 6 (fw_A E) := by
  refine vx_ofW (cc := cX9_packed) (maxL := 2) (ret := (some .long)) (by decide) rfl ?_
  intro p e s m args below meth c s₁ B hml hex hv
  obtain ⟨ha, hK, hP, hSt⟩ := hv
  have hx := B.exec
  have hb := B.bytes
  have hr := B.returns
  have hts := atoms_spec (ws := fw_ws yX9_packed cX9_packed 2 (some .long)) B.pre
  have hU : ∀ w ∈ fw_U, w.before args s = true := fun w hw => hts w (List.mem_cons_of_mem _ hw)
  have hown : s.vm.findClass RX9 = some m.cls := findClass_of_methodNamed B.named
  have hlocks := B.notSynchronized
  have EN : ∀ (H : Heap) (locs : List Loc) (ls : Array Slot), fw_P E o d μ H → va_S (fw_A E) s.heap H locs → lv_has ls 2 [(0, .ref (fw_ad E 0 10)), (1, .int x1)] → W p l e (headSpec (fw_ws yX9_packed cX9_packed 2 (some .long)) ({ frames := 7, cells := 1, slots := 6, locals := 111 } : Room)).room s m args below meth c H locs 0 0 (vx_MQ below (fw_QR E o d k (some (.long r)) μ') (fw_XC E o d k μ') args s 1 6 (fw_A E)) (F0 m 0 ls []) := by
    intro H locs ls hP hS hl
    unfold f_X9_packed at h
    refine lv_aload_n hx hb dX9_packed_0 rfl (lv_at hl 0 rfl) ?_
    refine lv_iload_n hx hb dX9_packed_1 rfl (lv_at hl 1 rfl) ?_
    obtain ⟨μ1, r1, k1, hc1, h⟩ := fw_b3_e h
    refine fw_xretv (vx_runV (As := [.int x1]) (rest := []) ⟨hx, hb, hml, hown, hU⟩ (k_X9_requireGarment l hst hE x1 hc1) (cwV 1 hU (fw_gV m_625 m_627 ms_4 m_1 m_628) rfl rfl rfl (by decide +kernel) ⟨(Nat.le_of_ble_eq_true rfl), (Nat.le_of_ble_eq_true rfl)⟩) ⟨fw_blind, fw_recv hK hP (fw_V0 (f := 10) (by decide) (by decide)) rfl rfl, fun U hU9 hW9 => ⟨rfl, fw_pre hK hP hSt hS U hU9 hW9⟩⟩ rfl rfl hl.1 rfl (lv_room (Nat.le_of_ble_eq_true rfl)) dX9_packed_2 ⟨(Nat.le_of_ble_eq_true rfl), (Nat.le_of_ble_eq_true rfl)⟩) hS (fun hk1 H locs hP hS => ?_) (fun hk1 H locs q ce hP hS hce hcv hcl => ?_)
    · rw [if_pos hk1] at h
      refine lv_aload_n hx hb dX9_packed_5 rfl (lv_at hl 0 rfl) ?_
      refine va_get (D := fw_D E) (ci := 7) (v := .ref (fw_ad E 0 0)) (C := RX9) (T := TX9) (N := 9) hx hb hU inU9 hown hK (fw_at hP (fw_V0 (f := 10) (by decide) (by decide))) 0 rfl rfl 0 (by decide) (hU (Cond.fieldLink RX9 12 "LaundryService" "state" "LLaundryService$State;") m_193) (fun _ h9 => h9) rfl dX9_packed_6 ?_
      refine lv_iload_n hx hb dX9_packed_9 rfl (lv_at hl 1 rfl) ?_
      obtain ⟨r2, hc2, h⟩ := fw_b1_e h
      refine fw_ret (va_runV (As := [.int x1]) (rest := []) ⟨hx, hb, hml, hown, hU⟩ (k_X7_pack l hE (by decide) x1 hc2) (cwV 1 hU (fw_gV m_849 m_850 m_851 m_2 m_852) rfl rfl rfl (by decide +kernel) ⟨(Nat.le_of_ble_eq_true rfl), (Nat.le_of_ble_eq_true rfl)⟩) ⟨fw_blind, fw_recv hK hP (fw_Vs (f := 0) (by decide) (by decide)) rfl rfl, fun U hU9 hW9 => ⟨rfl, fw_pre hK hP hSt hS U hU9 hW9⟩⟩ rfl rfl hl.1 rfl (lv_room (Nat.le_of_ble_eq_true rfl)) dX9_packed_10 ⟨(Nat.le_of_ble_eq_true rfl), (Nat.le_of_ble_eq_true rfl)⟩) hS (fun H locs hP hS => ?_)
      refine W.widen (k := 1) (n := 6) (Nat.le_of_ble_eq_true rfl) (Nat.le_of_ble_eq_true rfl) (vx_ret ?_)
      exact W.lret (v := r2) hx hb hr (fw_xw (mk := Value.long) h hP hS) hS.2.2 dX9_packed_13
    · rw [if_neg hk1] at h
      exact vx_out (fun z hz => (hex z hz).elim) hlocks hce hcv hcl (fw_xo h hk1 hP hS) hS.2.2 (Nat.le_of_ble_eq_true rfl) (Nat.le_of_ble_eq_true rfl)
  subst ha
  have hl := lv_entry ([.ref (fw_ad E 0 10), .int x1]) (n := 2) (Nat.le_of_ble_eq_true rfl)
  rw [lg_entry_eq]
  generalize (lg_sl ([.ref (fw_ad E 0 10), .int x1]) ++ List.replicate (2 - (lg_sl ([.ref (fw_ad E 0 10), .int x1])).length) Slot.unset).toArray = ls at hl ⊢
  exact EN s.heap [] ls hP va_S.rf hl
set_option maxHeartbeats 4000000 in
set_option maxRecDepth 100000 in
theorem k_X9_requireClient (l : Launch) (hst : l.stackTraces = false) {E : fw_E} {o : Int64} {d : UInt64} (hE : fw_ok E) {μ μ' : fw_M} (x0 : Int32) {r : Unit} {k : Nat} (h : f_X9_requireClient μ x0 = some (μ', r, k)) : vx_Met l yX9_requireClient (fw_ws yX9_requireClient cX9_requireClient 1 none) ({ frames := 6, cells := 1, slots := 6, locals := 90 } : Room) (va_Pc [.int x0] (fw_Pre E o d μ)) (fw_QR E o d k none μ') (fw_XC E o d k μ') 1 6 (fw_A E) := by
  refine vx_ofW (cc := cX9_requireClient) (maxL := 1) (ret := none) (by decide) rfl ?_
  intro p e s m args below meth c s₁ B hml hex hv
  obtain ⟨ha, hK, hP, hSt⟩ := hv
  have hx := B.exec
  have hb := B.bytes
  have hr := B.returns
  have hts := atoms_spec (ws := fw_ws yX9_requireClient cX9_requireClient 1 none) B.pre
  have hU : ∀ w ∈ fw_U, w.before args s = true := fun w hw => hts w (List.mem_cons_of_mem _ hw)
  have hown : s.vm.findClass RX9 = some m.cls := findClass_of_methodNamed B.named
  have hlocks := B.notSynchronized
  have EN : ∀ (H : Heap) (locs : List Loc) (ls : Array Slot), fw_P E o d μ H → va_S (fw_A E) s.heap H locs → lv_has ls 1 [(0, .int x0)] → W p l e (headSpec (fw_ws yX9_requireClient cX9_requireClient 1 none) ({ frames := 6, cells := 1, slots := 6, locals := 90 } : Room)).room s m args below meth c H locs 0 0 (vx_MQ below (fw_QR E o d k none μ') (fw_XC E o d k μ') args s 1 6 (fw_A E)) (F0 m 0 ls []) := by
    intro H locs ls hP hS hl
    unfold f_X9_requireClient at h
    refine lv_iload_n hx hb dX9_requireClient_0 rfl (lv_at hl 0 rfl) ?_
    obtain ⟨r1, hc1, h⟩ := fw_b1_e h
    refine fw_ret (va_runS (As := [.int x0]) (rest := []) ⟨hx, hb, hml, hown, hU⟩ (k_X9_isClient l hE x0 hc1) (va_cwS 1 hU (fw_gS m_713 m_429 m_1 m_430) rfl rfl rfl (by decide +kernel) ⟨(Nat.le_of_ble_eq_true rfl), (Nat.le_of_ble_eq_true rfl)⟩) ⟨fw_blind, fun U hU9 hW9 => ⟨rfl, fw_pre hK hP hSt hS U hU9 hW9⟩⟩ rfl rfl hl.1 rfl (lv_room (Nat.le_of_ble_eq_true rfl)) dX9_requireClient_1 ⟨Nat.zero_le _, Nat.zero_le _⟩) hS (fun H locs hP hS => ?_)
    refine lv_if_ne (tgt := 18) hx hb dX9_requireClient_4 (by decide) (fun c2 => ?_) (fun c2 => ?_)
    · rw [if_neg c2] at h
      refine W.widen (k := 1) (n := 6) (Nat.le_of_ble_eq_true rfl) (Nat.le_of_ble_eq_true rfl) (vx_ret ?_)
      exact W.vret hx hb hr (fw_xv h hP hS) hS.2.2 dX9_requireClient_18
    · rw [if_pos c2] at h
      exact fw_throwW hx hb hst hown hU hSt hP hS (m_443) (m_13) (List.mem_of_getElem? (i := 16) rfl) thr_307 (hl.1.trans hml.symm) dX9_requireClient_7 dX9_requireClient_10 dX9_requireClient_11 dX9_requireClient_14 dX9_requireClient_17 hex (Nat.le_of_ble_eq_true rfl) (Nat.le_of_ble_eq_true rfl) (Nat.le_of_ble_eq_true rfl) (Nat.le_of_ble_eq_true rfl) hlocks h (by decide) rfl (Nat.le_of_ble_eq_true rfl) (Nat.le_of_ble_eq_true rfl)
  subst ha
  have hl := lv_entry ([.int x0]) (n := 1) (Nat.le_of_ble_eq_true rfl)
  rw [lg_entry_eq]
  generalize (lg_sl ([.int x0]) ++ List.replicate (1 - (lg_sl ([.int x0])).length) Slot.unset).toArray = ls at hl ⊢
  exact EN s.heap [] ls hP va_S.rf hl
set_option maxHeartbeats 4000000 in
set_option maxRecDepth 100000 in
theorem k_X9_pairCount (l : Launch) (hst : l.stackTraces = false) {E : fw_E} {o : Int64} {d : UInt64} (hE : fw_ok E) {μ μ' : fw_M} (x1 : Int32) {r : Int32} {k : Nat} (h : f_X9_pairCount μ x1 = some (μ', r, k)) : vx_Met l yX9_pairCount (fw_ws yX9_pairCount cX9_pairCount 2 (some .int)) ({ frames := 7, cells := 1, slots := 6, locals := 110 } : Room) (va_Pc [.ref (fw_ad E 0 10), .int x1] (fw_Pre E o d μ)) (fw_QR E o d k (some (.int r)) μ') (fw_XC E o d k μ') 1 6 (fw_A E) := by
  refine vx_ofW (cc := cX9_pairCount) (maxL := 2) (ret := (some .int)) (by decide) rfl ?_
  intro p e s m args below meth c s₁ B hml hex hv
  obtain ⟨ha, hK, hP, hSt⟩ := hv
  have hx := B.exec
  have hb := B.bytes
  have hr := B.returns
  have hts := atoms_spec (ws := fw_ws yX9_pairCount cX9_pairCount 2 (some .int)) B.pre
  have hU : ∀ w ∈ fw_U, w.before args s = true := fun w hw => hts w (List.mem_cons_of_mem _ hw)
  have hown : s.vm.findClass RX9 = some m.cls := findClass_of_methodNamed B.named
  have hlocks := B.notSynchronized
  have EN : ∀ (H : Heap) (locs : List Loc) (ls : Array Slot), fw_P E o d μ H → va_S (fw_A E) s.heap H locs → lv_has ls 2 [(0, .ref (fw_ad E 0 10)), (1, .int x1)] → W p l e (headSpec (fw_ws yX9_pairCount cX9_pairCount 2 (some .int)) ({ frames := 7, cells := 1, slots := 6, locals := 110 } : Room)).room s m args below meth c H locs 0 0 (vx_MQ below (fw_QR E o d k (some (.int r)) μ') (fw_XC E o d k μ') args s 1 6 (fw_A E)) (F0 m 0 ls []) := by
    intro H locs ls hP hS hl
    unfold f_X9_pairCount at h
    refine lv_iload_n hx hb dX9_pairCount_0 rfl (lv_at hl 1 rfl) ?_
    obtain ⟨μ1, r1, k1, hc1, h⟩ := fw_b3_e h
    refine fw_xretv (vx_runS (As := [.int x1]) (rest := []) ⟨hx, hb, hml, hown, hU⟩ (k_X9_requireClient l hst hE x1 hc1) (va_cwS 1 hU (fw_gS m_710 m_711 m_1 m_712) rfl rfl rfl (by decide +kernel) ⟨(Nat.le_of_ble_eq_true rfl), (Nat.le_of_ble_eq_true rfl)⟩) ⟨fw_blind, fun U hU9 hW9 => ⟨rfl, fw_pre hK hP hSt hS U hU9 hW9⟩⟩ rfl rfl hl.1 rfl (lv_room (Nat.le_of_ble_eq_true rfl)) dX9_pairCount_1 ⟨(Nat.le_of_ble_eq_true rfl), (Nat.le_of_ble_eq_true rfl)⟩) hS (fun hk1 H locs hP hS => ?_) (fun hk1 H locs q ce hP hS hce hcv hcl => ?_)
    · rw [if_pos hk1] at h
      refine lv_aload_n hx hb dX9_pairCount_4 rfl (lv_at hl 0 rfl) ?_
      refine va_get (D := fw_D E) (ci := 7) (v := .ref (fw_ad E 0 0)) (C := RX9) (T := TX9) (N := 9) hx hb hU inU9 hown hK (fw_at hP (fw_V0 (f := 10) (by decide) (by decide))) 0 rfl rfl 0 (by decide) (hU (Cond.fieldLink RX9 12 "LaundryService" "state" "LLaundryService$State;") m_193) (fun _ h9 => h9) rfl dX9_pairCount_5 ?_
      refine lv_iload_n hx hb dX9_pairCount_8 rfl (lv_at hl 1 rfl) ?_
      obtain ⟨r2, hc2, h⟩ := fw_b1_e h
      refine fw_ret (va_runS (As := [.ref (fw_ad E 0 0), .int x1]) (rest := []) ⟨hx, hb, hml, hown, hU⟩ (k_X6_formed l hE (by decide) x1 hc2) (va_cwS 2 hU (fw_gS m_310 m_311 m_28 m_312) rfl rfl rfl (by decide +kernel) ⟨(Nat.le_of_ble_eq_true rfl), (Nat.le_of_ble_eq_true rfl)⟩) ⟨fw_blind, fun U hU9 hW9 => ⟨rfl, fw_pre hK hP hSt hS U hU9 hW9⟩⟩ rfl rfl hl.1 rfl (lv_room (Nat.le_of_ble_eq_true rfl)) dX9_pairCount_9 ⟨(Nat.le_of_ble_eq_true rfl), (Nat.le_of_ble_eq_true rfl)⟩) hS (fun H locs hP hS => ?_)
      refine W.widen (k := 1) (n := 6) (Nat.le_of_ble_eq_true rfl) (Nat.le_of_ble_eq_true rfl) (vx_ret ?_)
      exact W.iret (v := r2) hx hb hr (fw_xw (mk := Value.int) h hP hS) hS.2.2 dX9_pairCount_12
    · rw [if_neg hk1] at h
      exact vx_out (fun z hz => (hex z hz).elim) hlocks hce hcv hcl (fw_xo h hk1 hP hS) hS.2.2 (Nat.le_of_ble_eq_true rfl) (Nat.le_of_ble_eq_true rfl)
  subst ha
  have hl := lv_entry ([.ref (fw_ad E 0 10), .int x1]) (n := 2) (Nat.le_of_ble_eq_true rfl)
  rw [lg_entry_eq]
  generalize (lg_sl ([.ref (fw_ad E 0 10), .int x1]) ++ List.replicate (2 - (lg_sl ([.ref (fw_ad E 0 10), .int x1])).length) Slot.unset).toArray = ls at hl ⊢
  exact EN s.heap [] ls hP va_S.rf hl
set_option maxHeartbeats 4000000 in
set_option maxRecDepth 100000 in
theorem k_X9_pairCountByParity (l : Launch) (hst : l.stackTraces = false) {E : fw_E} {o : Int64} {d : UInt64} (hE : fw_ok E) {μ μ' : fw_M} (x1 : Int32) {r : Int32} {k : Nat} (h : f_X9_pairCountByParity μ x1 = some (μ', r, k)) : vx_Met l yX9_pairCountByParity (fw_ws yX9_pairCountByParity cX9_pairCountByParity 2 (some .int)) ({ frames := 7, cells := 1, slots := 6, locals := 110 } : Room) (va_Pc [.ref (fw_ad E 0 10), .int x1] (fw_Pre E o d μ)) (fw_QR E o d k (some (.int r)) μ') (fw_XC E o d k μ') 1 6 (fw_A E) := by
  refine vx_ofW (cc := cX9_pairCountByParity) (maxL := 2) (ret := (some .int)) (by decide) rfl ?_
  intro p e s m args below meth c s₁ B hml hex hv
  obtain ⟨ha, hK, hP, hSt⟩ := hv
  have hx := B.exec
  have hb := B.bytes
  have hr := B.returns
  have hts := atoms_spec (ws := fw_ws yX9_pairCountByParity cX9_pairCountByParity 2 (some .int)) B.pre
  have hU : ∀ w ∈ fw_U, w.before args s = true := fun w hw => hts w (List.mem_cons_of_mem _ hw)
  have hown : s.vm.findClass RX9 = some m.cls := findClass_of_methodNamed B.named
  have hlocks := B.notSynchronized
  have EN : ∀ (H : Heap) (locs : List Loc) (ls : Array Slot), fw_P E o d μ H → va_S (fw_A E) s.heap H locs → lv_has ls 2 [(0, .ref (fw_ad E 0 10)), (1, .int x1)] → W p l e (headSpec (fw_ws yX9_pairCountByParity cX9_pairCountByParity 2 (some .int)) ({ frames := 7, cells := 1, slots := 6, locals := 110 } : Room)).room s m args below meth c H locs 0 0 (vx_MQ below (fw_QR E o d k (some (.int r)) μ') (fw_XC E o d k μ') args s 1 6 (fw_A E)) (F0 m 0 ls []) := by
    intro H locs ls hP hS hl
    unfold f_X9_pairCountByParity at h
    refine lv_iload_n hx hb dX9_pairCountByParity_0 rfl (lv_at hl 1 rfl) ?_
    obtain ⟨μ1, r1, k1, hc1, h⟩ := fw_b3_e h
    refine fw_xretv (vx_runS (As := [.int x1]) (rest := []) ⟨hx, hb, hml, hown, hU⟩ (k_X9_requireClient l hst hE x1 hc1) (va_cwS 1 hU (fw_gS m_710 m_711 m_1 m_712) rfl rfl rfl (by decide +kernel) ⟨(Nat.le_of_ble_eq_true rfl), (Nat.le_of_ble_eq_true rfl)⟩) ⟨fw_blind, fun U hU9 hW9 => ⟨rfl, fw_pre hK hP hSt hS U hU9 hW9⟩⟩ rfl rfl hl.1 rfl (lv_room (Nat.le_of_ble_eq_true rfl)) dX9_pairCountByParity_1 ⟨(Nat.le_of_ble_eq_true rfl), (Nat.le_of_ble_eq_true rfl)⟩) hS (fun hk1 H locs hP hS => ?_) (fun hk1 H locs q ce hP hS hce hcv hcl => ?_)
    · rw [if_pos hk1] at h
      refine lv_aload_n hx hb dX9_pairCountByParity_4 rfl (lv_at hl 0 rfl) ?_
      refine va_get (D := fw_D E) (ci := 7) (v := .ref (fw_ad E 0 0)) (C := RX9) (T := TX9) (N := 9) hx hb hU inU9 hown hK (fw_at hP (fw_V0 (f := 10) (by decide) (by decide))) 0 rfl rfl 0 (by decide) (hU (Cond.fieldLink RX9 12 "LaundryService" "state" "LLaundryService$State;") m_193) (fun _ h9 => h9) rfl dX9_pairCountByParity_5 ?_
      refine lv_iload_n hx hb dX9_pairCountByParity_8 rfl (lv_at hl 1 rfl) ?_
      obtain ⟨r2, hc2, h⟩ := fw_b1_e h
      refine fw_ret (va_runS (As := [.ref (fw_ad E 0 0), .int x1]) (rest := []) ⟨hx, hb, hml, hown, hU⟩ (k_X6_byParity l hE (by decide) x1 hc2) (va_cwS 2 hU (fw_gS m_323 m_324 m_28 m_325) rfl rfl rfl (by decide +kernel) ⟨(Nat.le_of_ble_eq_true rfl), (Nat.le_of_ble_eq_true rfl)⟩) ⟨fw_blind, fun U hU9 hW9 => ⟨rfl, fw_pre hK hP hSt hS U hU9 hW9⟩⟩ rfl rfl hl.1 rfl (lv_room (Nat.le_of_ble_eq_true rfl)) dX9_pairCountByParity_9 ⟨(Nat.le_of_ble_eq_true rfl), (Nat.le_of_ble_eq_true rfl)⟩) hS (fun H locs hP hS => ?_)
      refine W.widen (k := 1) (n := 6) (Nat.le_of_ble_eq_true rfl) (Nat.le_of_ble_eq_true rfl) (vx_ret ?_)
      exact W.iret (v := r2) hx hb hr (fw_xw (mk := Value.int) h hP hS) hS.2.2 dX9_pairCountByParity_12
    · rw [if_neg hk1] at h
      exact vx_out (fun z hz => (hex z hz).elim) hlocks hce hcv hcl (fw_xo h hk1 hP hS) hS.2.2 (Nat.le_of_ble_eq_true rfl) (Nat.le_of_ble_eq_true rfl)
  subst ha
  have hl := lv_entry ([.ref (fw_ad E 0 10), .int x1]) (n := 2) (Nat.le_of_ble_eq_true rfl)
  rw [lg_entry_eq]
  generalize (lg_sl ([.ref (fw_ad E 0 10), .int x1]) ++ List.replicate (2 - (lg_sl ([.ref (fw_ad E 0 10), .int x1])).length) Slot.unset).toArray = ls at hl ⊢
  exact EN s.heap [] ls hP va_S.rf hl
set_option maxHeartbeats 4000000 in
set_option maxRecDepth 100000 in
theorem k_X9_inBag (l : Launch) (hst : l.stackTraces = false) {E : fw_E} {o : Int64} {d : UInt64} (hE : fw_ok E) {μ μ' : fw_M} (x1 : Int32) {r : Int32} {k : Nat} (h : f_X9_inBag μ x1 = some (μ', r, k)) : vx_Met l yX9_inBag (fw_ws yX9_inBag cX9_inBag 2 (some .int)) ({ frames := 7, cells := 1, slots := 6, locals := 110 } : Room) (va_Pc [.ref (fw_ad E 0 10), .int x1] (fw_Pre E o d μ)) (fw_QR E o d k (some (.int r)) μ') (fw_XC E o d k μ') 1 6 (fw_A E) := by
  refine vx_ofW (cc := cX9_inBag) (maxL := 2) (ret := (some .int)) (by decide) rfl ?_
  intro p e s m args below meth c s₁ B hml hex hv
  obtain ⟨ha, hK, hP, hSt⟩ := hv
  have hx := B.exec
  have hb := B.bytes
  have hr := B.returns
  have hts := atoms_spec (ws := fw_ws yX9_inBag cX9_inBag 2 (some .int)) B.pre
  have hU : ∀ w ∈ fw_U, w.before args s = true := fun w hw => hts w (List.mem_cons_of_mem _ hw)
  have hown : s.vm.findClass RX9 = some m.cls := findClass_of_methodNamed B.named
  have hlocks := B.notSynchronized
  have EN : ∀ (H : Heap) (locs : List Loc) (ls : Array Slot), fw_P E o d μ H → va_S (fw_A E) s.heap H locs → lv_has ls 2 [(0, .ref (fw_ad E 0 10)), (1, .int x1)] → W p l e (headSpec (fw_ws yX9_inBag cX9_inBag 2 (some .int)) ({ frames := 7, cells := 1, slots := 6, locals := 110 } : Room)).room s m args below meth c H locs 0 0 (vx_MQ below (fw_QR E o d k (some (.int r)) μ') (fw_XC E o d k μ') args s 1 6 (fw_A E)) (F0 m 0 ls []) := by
    intro H locs ls hP hS hl
    unfold f_X9_inBag at h
    refine lv_iload_n hx hb dX9_inBag_0 rfl (lv_at hl 1 rfl) ?_
    obtain ⟨μ1, r1, k1, hc1, h⟩ := fw_b3_e h
    refine fw_xretv (vx_runS (As := [.int x1]) (rest := []) ⟨hx, hb, hml, hown, hU⟩ (k_X9_requireClient l hst hE x1 hc1) (va_cwS 1 hU (fw_gS m_710 m_711 m_1 m_712) rfl rfl rfl (by decide +kernel) ⟨(Nat.le_of_ble_eq_true rfl), (Nat.le_of_ble_eq_true rfl)⟩) ⟨fw_blind, fun U hU9 hW9 => ⟨rfl, fw_pre hK hP hSt hS U hU9 hW9⟩⟩ rfl rfl hl.1 rfl (lv_room (Nat.le_of_ble_eq_true rfl)) dX9_inBag_1 ⟨(Nat.le_of_ble_eq_true rfl), (Nat.le_of_ble_eq_true rfl)⟩) hS (fun hk1 H locs hP hS => ?_) (fun hk1 H locs q ce hP hS hce hcv hcl => ?_)
    · rw [if_pos hk1] at h
      refine lv_aload_n hx hb dX9_inBag_4 rfl (lv_at hl 0 rfl) ?_
      refine va_get (D := fw_D E) (ci := 7) (v := .ref (fw_ad E 0 0)) (C := RX9) (T := TX9) (N := 9) hx hb hU inU9 hown hK (fw_at hP (fw_V0 (f := 10) (by decide) (by decide))) 0 rfl rfl 0 (by decide) (hU (Cond.fieldLink RX9 12 "LaundryService" "state" "LLaundryService$State;") m_193) (fun _ h9 => h9) rfl dX9_inBag_5 ?_
      refine lv_iload_n hx hb dX9_inBag_8 rfl (lv_at hl 1 rfl) ?_
      obtain ⟨r2, hc2, h⟩ := fw_b1_e h
      refine fw_ret (va_runV (As := [.int x1]) (rest := []) ⟨hx, hb, hml, hown, hU⟩ (k_X7_garmentsInBag l hE (by decide) x1 hc2) (cwV 1 hU (fw_gV m_729 m_730 m_731 m_2 m_732) rfl rfl rfl (by decide +kernel) ⟨(Nat.le_of_ble_eq_true rfl), (Nat.le_of_ble_eq_true rfl)⟩) ⟨fw_blind, fw_recv hK hP (fw_Vs (f := 0) (by decide) (by decide)) rfl rfl, fun U hU9 hW9 => ⟨rfl, fw_pre hK hP hSt hS U hU9 hW9⟩⟩ rfl rfl hl.1 rfl (lv_room (Nat.le_of_ble_eq_true rfl)) dX9_inBag_9 ⟨(Nat.le_of_ble_eq_true rfl), (Nat.le_of_ble_eq_true rfl)⟩) hS (fun H locs hP hS => ?_)
      refine W.widen (k := 1) (n := 6) (Nat.le_of_ble_eq_true rfl) (Nat.le_of_ble_eq_true rfl) (vx_ret ?_)
      exact W.iret (v := r2) hx hb hr (fw_xw (mk := Value.int) h hP hS) hS.2.2 dX9_inBag_12
    · rw [if_neg hk1] at h
      exact vx_out (fun z hz => (hex z hz).elim) hlocks hce hcv hcl (fw_xo h hk1 hP hS) hS.2.2 (Nat.le_of_ble_eq_true rfl) (Nat.le_of_ble_eq_true rfl)
  subst ha
  have hl := lv_entry ([.ref (fw_ad E 0 10), .int x1]) (n := 2) (Nat.le_of_ble_eq_true rfl)
  rw [lg_entry_eq]
  generalize (lg_sl ([.ref (fw_ad E 0 10), .int x1]) ++ List.replicate (2 - (lg_sl ([.ref (fw_ad E 0 10), .int x1])).length) Slot.unset).toArray = ls at hl ⊢
  exact EN s.heap [] ls hP va_S.rf hl
set_option maxHeartbeats 4000000 in
set_option maxRecDepth 100000 in
theorem k_X9_lost (l : Launch) {E : fw_E} {o : Int64} {d : UInt64} (hE : fw_ok E) {μ : fw_M} {r : Int32} (h : f_X9_lost μ = some r) : Met l yX9_lost (fw_ws yX9_lost cX9_lost 1 (some .int)) ({ frames := 1, cells := 0, slots := 0, locals := 23 } : Room) (va_Pc [.ref (fw_ad E 0 10)] (fw_Pre E o d μ)) (fw_Q E o d (some (.int r)) μ) 0 0 (fw_A E) := by
  refine Met.ofW (cc := cX9_lost) (maxL := 1) (ret := (some .int)) (by decide) rfl ?_
  intro p e s m args below meth c s₁ B hml hv
  obtain ⟨ha, hK, hP, hSt⟩ := hv
  have hx := B.exec
  have hb := B.bytes
  have hr := B.returns
  have hts := atoms_spec (ws := fw_ws yX9_lost cX9_lost 1 (some .int)) B.pre
  have hU : ∀ w ∈ fw_U, w.before args s = true := fun w hw => hts w (List.mem_cons_of_mem _ hw)
  have hown : s.vm.findClass RX9 = some m.cls := findClass_of_methodNamed B.named
  have hlocks := B.notSynchronized
  have EN : ∀ (H : Heap) (locs : List Loc) (ls : Array Slot), fw_P E o d μ H → va_S (fw_A E) s.heap H locs → lv_has ls 1 [(0, .ref (fw_ad E 0 10))] → W p l e (headSpec (fw_ws yX9_lost cX9_lost 1 (some .int)) ({ frames := 1, cells := 0, slots := 0, locals := 23 } : Room)).room s m args below meth c H locs 0 0 (MQ below (fw_Q E o d (some (.int r)) μ) args s 0 0 (fw_A E)) (F0 m 0 ls []) := by
    intro H locs ls hP hS hl
    unfold f_X9_lost at h
    refine lv_aload_n hx hb dX9_lost_0 rfl (lv_at hl 0 rfl) ?_
    refine va_get (D := fw_D E) (ci := 7) (v := .ref (fw_ad E 0 0)) (C := RX9) (T := TX9) (N := 9) hx hb hU inU9 hown hK (fw_at hP (fw_V0 (f := 10) (by decide) (by decide))) 0 rfl rfl 0 (by decide) (hU (Cond.fieldLink RX9 12 "LaundryService" "state" "LLaundryService$State;") m_193) (fun _ h9 => h9) rfl dX9_lost_1 ?_
    refine lv_iconst (v := (3 : Int32)) hx hb dX9_lost_4 (by decide) ?_
    obtain ⟨r1, hc1, h⟩ := fw_b1_e h
    refine fw_ret (va_runV (As := [.int (3 : Int32)]) (rest := []) ⟨hx, hb, hml, hown, hU⟩ (k_X7_garmentsAt l hE (by decide) (3 : Int32) hc1) (cwV 1 hU (fw_gV m_229 m_230 m_231 m_2 m_232) rfl rfl rfl (by decide +kernel) ⟨(Nat.le_of_ble_eq_true rfl), (Nat.le_of_ble_eq_true rfl)⟩) ⟨fw_blind, fw_recv hK hP (fw_Vs (f := 0) (by decide) (by decide)) rfl rfl, fun U hU9 hW9 => ⟨rfl, fw_pre hK hP hSt hS U hU9 hW9⟩⟩ rfl rfl hl.1 rfl (lv_room (Nat.le_of_ble_eq_true rfl)) dX9_lost_5 ⟨Nat.zero_le _, Nat.zero_le _⟩) hS (fun H locs hP hS => ?_)
    exact W.iret (v := r1) hx hb hr (fw_er (mk := Value.int) h hP hS) hS.2.2 dX9_lost_8
  subst ha
  have hl := lv_entry ([.ref (fw_ad E 0 10)]) (n := 1) (Nat.le_of_ble_eq_true rfl)
  rw [lg_entry_eq]
  generalize (lg_sl ([.ref (fw_ad E 0 10)]) ++ List.replicate (1 - (lg_sl ([.ref (fw_ad E 0 10)])).length) Slot.unset).toArray = ls at hl ⊢
  exact EN s.heap [] ls hP va_S.rf hl
set_option maxHeartbeats 4000000 in
set_option maxRecDepth 100000 in
theorem k_X9_requireMachine (l : Launch) (hst : l.stackTraces = false) {E : fw_E} {o : Int64} {d : UInt64} (hE : fw_ok E) {μ μ' : fw_M} (x0 : Int32) {r : Unit} {k : Nat} (h : f_X9_requireMachine μ x0 = some (μ', r, k)) : vx_Met l yX9_requireMachine (fw_ws yX9_requireMachine cX9_requireMachine 1 none) ({ frames := 6, cells := 1, slots := 6, locals := 90 } : Room) (va_Pc [.int x0] (fw_Pre E o d μ)) (fw_QR E o d k none μ') (fw_XC E o d k μ') 1 6 (fw_A E) := by
  refine vx_ofW (cc := cX9_requireMachine) (maxL := 1) (ret := none) (by decide) rfl ?_
  intro p e s m args below meth c s₁ B hml hex hv
  obtain ⟨ha, hK, hP, hSt⟩ := hv
  have hx := B.exec
  have hb := B.bytes
  have hr := B.returns
  have hts := atoms_spec (ws := fw_ws yX9_requireMachine cX9_requireMachine 1 none) B.pre
  have hU : ∀ w ∈ fw_U, w.before args s = true := fun w hw => hts w (List.mem_cons_of_mem _ hw)
  have hown : s.vm.findClass RX9 = some m.cls := findClass_of_methodNamed B.named
  have hlocks := B.notSynchronized
  have EN : ∀ (H : Heap) (locs : List Loc) (ls : Array Slot), fw_P E o d μ H → va_S (fw_A E) s.heap H locs → lv_has ls 1 [(0, .int x0)] → W p l e (headSpec (fw_ws yX9_requireMachine cX9_requireMachine 1 none) ({ frames := 6, cells := 1, slots := 6, locals := 90 } : Room)).room s m args below meth c H locs 0 0 (vx_MQ below (fw_QR E o d k none μ') (fw_XC E o d k μ') args s 1 6 (fw_A E)) (F0 m 0 ls []) := by
    intro H locs ls hP hS hl
    unfold f_X9_requireMachine at h
    refine lv_iload_n hx hb dX9_requireMachine_0 rfl (lv_at hl 0 rfl) ?_
    obtain ⟨r1, hc1, h⟩ := fw_b1_e h
    refine fw_ret (va_runS (As := [.int x0]) (rest := []) ⟨hx, hb, hml, hown, hU⟩ (k_X9_isMachine l hE x0 hc1) (va_cwS 1 hU (fw_gS m_744 m_549 m_1 m_550) rfl rfl rfl (by decide +kernel) ⟨(Nat.le_of_ble_eq_true rfl), (Nat.le_of_ble_eq_true rfl)⟩) ⟨fw_blind, fun U hU9 hW9 => ⟨rfl, fw_pre hK hP hSt hS U hU9 hW9⟩⟩ rfl rfl hl.1 rfl (lv_room (Nat.le_of_ble_eq_true rfl)) dX9_requireMachine_1 ⟨Nat.zero_le _, Nat.zero_le _⟩) hS (fun H locs hP hS => ?_)
    refine lv_if_ne (tgt := 18) hx hb dX9_requireMachine_4 (by decide) (fun c2 => ?_) (fun c2 => ?_)
    · rw [if_neg c2] at h
      refine W.widen (k := 1) (n := 6) (Nat.le_of_ble_eq_true rfl) (Nat.le_of_ble_eq_true rfl) (vx_ret ?_)
      exact W.vret hx hb hr (fw_xv h hP hS) hS.2.2 dX9_requireMachine_18
    · rw [if_pos c2] at h
      exact fw_throwW hx hb hst hown hU hSt hP hS (m_443) (m_13) (List.mem_of_getElem? (i := 17) rfl) thr_307 (hl.1.trans hml.symm) dX9_requireMachine_7 dX9_requireMachine_10 dX9_requireMachine_11 dX9_requireMachine_14 dX9_requireMachine_17 hex (Nat.le_of_ble_eq_true rfl) (Nat.le_of_ble_eq_true rfl) (Nat.le_of_ble_eq_true rfl) (Nat.le_of_ble_eq_true rfl) hlocks h (by decide) rfl (Nat.le_of_ble_eq_true rfl) (Nat.le_of_ble_eq_true rfl)
  subst ha
  have hl := lv_entry ([.int x0]) (n := 1) (Nat.le_of_ble_eq_true rfl)
  rw [lg_entry_eq]
  generalize (lg_sl ([.int x0]) ++ List.replicate (1 - (lg_sl ([.int x0])).length) Slot.unset).toArray = ls at hl ⊢
  exact EN s.heap [] ls hP va_S.rf hl
set_option maxHeartbeats 4000000 in
set_option maxRecDepth 100000 in
theorem k_X9_inMachine (l : Launch) (hst : l.stackTraces = false) {E : fw_E} {o : Int64} {d : UInt64} (hE : fw_ok E) {μ μ' : fw_M} (x1 : Int32) {r : Int32} {k : Nat} (h : f_X9_inMachine μ x1 = some (μ', r, k)) : vx_Met l yX9_inMachine (fw_ws yX9_inMachine cX9_inMachine 2 (some .int)) ({ frames := 7, cells := 1, slots := 6, locals := 110 } : Room) (va_Pc [.ref (fw_ad E 0 10), .int x1] (fw_Pre E o d μ)) (fw_QR E o d k (some (.int r)) μ') (fw_XC E o d k μ') 1 6 (fw_A E) := by
  refine vx_ofW (cc := cX9_inMachine) (maxL := 2) (ret := (some .int)) (by decide) rfl ?_
  intro p e s m args below meth c s₁ B hml hex hv
  obtain ⟨ha, hK, hP, hSt⟩ := hv
  have hx := B.exec
  have hb := B.bytes
  have hr := B.returns
  have hts := atoms_spec (ws := fw_ws yX9_inMachine cX9_inMachine 2 (some .int)) B.pre
  have hU : ∀ w ∈ fw_U, w.before args s = true := fun w hw => hts w (List.mem_cons_of_mem _ hw)
  have hown : s.vm.findClass RX9 = some m.cls := findClass_of_methodNamed B.named
  have hlocks := B.notSynchronized
  have EN : ∀ (H : Heap) (locs : List Loc) (ls : Array Slot), fw_P E o d μ H → va_S (fw_A E) s.heap H locs → lv_has ls 2 [(0, .ref (fw_ad E 0 10)), (1, .int x1)] → W p l e (headSpec (fw_ws yX9_inMachine cX9_inMachine 2 (some .int)) ({ frames := 7, cells := 1, slots := 6, locals := 110 } : Room)).room s m args below meth c H locs 0 0 (vx_MQ below (fw_QR E o d k (some (.int r)) μ') (fw_XC E o d k μ') args s 1 6 (fw_A E)) (F0 m 0 ls []) := by
    intro H locs ls hP hS hl
    unfold f_X9_inMachine at h
    refine lv_iload_n hx hb dX9_inMachine_0 rfl (lv_at hl 1 rfl) ?_
    obtain ⟨μ1, r1, k1, hc1, h⟩ := fw_b3_e h
    refine fw_xretv (vx_runS (As := [.int x1]) (rest := []) ⟨hx, hb, hml, hown, hU⟩ (k_X9_requireMachine l hst hE x1 hc1) (va_cwS 1 hU (fw_gS m_741 m_742 m_1 m_743) rfl rfl rfl (by decide +kernel) ⟨(Nat.le_of_ble_eq_true rfl), (Nat.le_of_ble_eq_true rfl)⟩) ⟨fw_blind, fun U hU9 hW9 => ⟨rfl, fw_pre hK hP hSt hS U hU9 hW9⟩⟩ rfl rfl hl.1 rfl (lv_room (Nat.le_of_ble_eq_true rfl)) dX9_inMachine_1 ⟨(Nat.le_of_ble_eq_true rfl), (Nat.le_of_ble_eq_true rfl)⟩) hS (fun hk1 H locs hP hS => ?_) (fun hk1 H locs q ce hP hS hce hcv hcl => ?_)
    · rw [if_pos hk1] at h
      refine lv_aload_n hx hb dX9_inMachine_4 rfl (lv_at hl 0 rfl) ?_
      refine va_get (D := fw_D E) (ci := 7) (v := .ref (fw_ad E 0 0)) (C := RX9) (T := TX9) (N := 9) hx hb hU inU9 hown hK (fw_at hP (fw_V0 (f := 10) (by decide) (by decide))) 0 rfl rfl 0 (by decide) (hU (Cond.fieldLink RX9 12 "LaundryService" "state" "LLaundryService$State;") m_193) (fun _ h9 => h9) rfl dX9_inMachine_5 ?_
      refine lv_iconst (v := (1 : Int32)) hx hb dX9_inMachine_8 (by decide) ?_
      refine lv_iload_n hx hb dX9_inMachine_9 rfl (lv_at hl 1 rfl) ?_
      refine lv_iadd hx hb dX9_inMachine_10 ?_
      obtain ⟨r2, hc2, h⟩ := fw_b1_e h
      refine fw_ret (va_runV (As := [.int ((1 : Int32) + x1)]) (rest := []) ⟨hx, hb, hml, hown, hU⟩ (k_X7_garmentsAt l hE (by decide) ((1 : Int32) + x1) hc2) (cwV 1 hU (fw_gV m_229 m_230 m_231 m_2 m_232) rfl rfl rfl (by decide +kernel) ⟨(Nat.le_of_ble_eq_true rfl), (Nat.le_of_ble_eq_true rfl)⟩) ⟨fw_blind, fw_recv hK hP (fw_Vs (f := 0) (by decide) (by decide)) rfl rfl, fun U hU9 hW9 => ⟨rfl, fw_pre hK hP hSt hS U hU9 hW9⟩⟩ rfl rfl hl.1 rfl (lv_room (Nat.le_of_ble_eq_true rfl)) dX9_inMachine_11 ⟨(Nat.le_of_ble_eq_true rfl), (Nat.le_of_ble_eq_true rfl)⟩) hS (fun H locs hP hS => ?_)
      refine W.widen (k := 1) (n := 6) (Nat.le_of_ble_eq_true rfl) (Nat.le_of_ble_eq_true rfl) (vx_ret ?_)
      exact W.iret (v := r2) hx hb hr (fw_xw (mk := Value.int) h hP hS) hS.2.2 dX9_inMachine_14
    · rw [if_neg hk1] at h
      exact vx_out (fun z hz => (hex z hz).elim) hlocks hce hcv hcl (fw_xo h hk1 hP hS) hS.2.2 (Nat.le_of_ble_eq_true rfl) (Nat.le_of_ble_eq_true rfl)
  subst ha
  have hl := lv_entry ([.ref (fw_ad E 0 10), .int x1]) (n := 2) (Nat.le_of_ble_eq_true rfl)
  rw [lg_entry_eq]
  generalize (lg_sl ([.ref (fw_ad E 0 10), .int x1]) ++ List.replicate (2 - (lg_sl ([.ref (fw_ad E 0 10), .int x1])).length) Slot.unset).toArray = ls at hl ⊢
  exact EN s.heap [] ls hP va_S.rf hl
set_option maxHeartbeats 4000000 in
set_option maxRecDepth 100000 in
theorem k_X9_temperature (l : Launch) (hst : l.stackTraces = false) {E : fw_E} {o : Int64} {d : UInt64} (hE : fw_ok E) {μ μ' : fw_M} (x1 : Int32) {r : UInt32} {k : Nat} (h : f_X9_temperature μ x1 = some (μ', r, k)) : vx_Met l yX9_temperature (fw_ws yX9_temperature cX9_temperature 2 (some .float)) ({ frames := 7, cells := 1, slots := 6, locals := 110 } : Room) (va_Pc [.ref (fw_ad E 0 10), .int x1] (fw_Pre E o d μ)) (fw_QR E o d k (some (.float r)) μ') (fw_XC E o d k μ') 1 6 (fw_A E) := by
  refine vx_ofW (cc := cX9_temperature) (maxL := 2) (ret := (some .float)) (by decide) rfl ?_
  intro p e s m args below meth c s₁ B hml hex hv
  obtain ⟨ha, hK, hP, hSt⟩ := hv
  have hx := B.exec
  have hb := B.bytes
  have hr := B.returns
  have hts := atoms_spec (ws := fw_ws yX9_temperature cX9_temperature 2 (some .float)) B.pre
  have hU : ∀ w ∈ fw_U, w.before args s = true := fun w hw => hts w (List.mem_cons_of_mem _ hw)
  have hown : s.vm.findClass RX9 = some m.cls := findClass_of_methodNamed B.named
  have hlocks := B.notSynchronized
  have EN : ∀ (H : Heap) (locs : List Loc) (ls : Array Slot), fw_P E o d μ H → va_S (fw_A E) s.heap H locs → lv_has ls 2 [(0, .ref (fw_ad E 0 10)), (1, .int x1)] → W p l e (headSpec (fw_ws yX9_temperature cX9_temperature 2 (some .float)) ({ frames := 7, cells := 1, slots := 6, locals := 110 } : Room)).room s m args below meth c H locs 0 0 (vx_MQ below (fw_QR E o d k (some (.float r)) μ') (fw_XC E o d k μ') args s 1 6 (fw_A E)) (F0 m 0 ls []) := by
    intro H locs ls hP hS hl
    unfold f_X9_temperature at h
    refine lv_iload_n hx hb dX9_temperature_0 rfl (lv_at hl 1 rfl) ?_
    obtain ⟨μ1, r1, k1, hc1, h⟩ := fw_b3_e h
    refine fw_xretv (vx_runS (As := [.int x1]) (rest := []) ⟨hx, hb, hml, hown, hU⟩ (k_X9_requireMachine l hst hE x1 hc1) (va_cwS 1 hU (fw_gS m_741 m_742 m_1 m_743) rfl rfl rfl (by decide +kernel) ⟨(Nat.le_of_ble_eq_true rfl), (Nat.le_of_ble_eq_true rfl)⟩) ⟨fw_blind, fun U hU9 hW9 => ⟨rfl, fw_pre hK hP hSt hS U hU9 hW9⟩⟩ rfl rfl hl.1 rfl (lv_room (Nat.le_of_ble_eq_true rfl)) dX9_temperature_1 ⟨(Nat.le_of_ble_eq_true rfl), (Nat.le_of_ble_eq_true rfl)⟩) hS (fun hk1 H locs hP hS => ?_) (fun hk1 H locs q ce hP hS hce hcv hcl => ?_)
    · rw [if_pos hk1] at h
      refine lv_aload_n hx hb dX9_temperature_4 rfl (lv_at hl 0 rfl) ?_
      refine va_get (D := fw_D E) (ci := 7) (v := .ref (fw_ad E 0 0)) (C := RX9) (T := TX9) (N := 9) hx hb hU inU9 hown hK (fw_at hP (fw_V0 (f := 10) (by decide) (by decide))) 0 rfl rfl 0 (by decide) (hU (Cond.fieldLink RX9 12 "LaundryService" "state" "LLaundryService$State;") m_193) (fun _ h9 => h9) rfl dX9_temperature_5 ?_
      refine lv_iload_n hx hb dX9_temperature_8 rfl (lv_at hl 1 rfl) ?_
      obtain ⟨r2, hc2, h⟩ := fw_b1_e h
      refine fw_ret (va_runV (As := [.int x1]) (rest := []) ⟨hx, hb, hml, hown, hU⟩ (k_X7_degrees l hE (by decide) x1 hc2) (cwV 1 hU (fw_gV m_583 m_584 m_585 m_2 m_586) rfl rfl rfl (by decide +kernel) ⟨(Nat.le_of_ble_eq_true rfl), (Nat.le_of_ble_eq_true rfl)⟩) ⟨fw_blind, fw_recv hK hP (fw_Vs (f := 0) (by decide) (by decide)) rfl rfl, fun U hU9 hW9 => ⟨rfl, fw_pre hK hP hSt hS U hU9 hW9⟩⟩ rfl rfl hl.1 rfl (lv_room (Nat.le_of_ble_eq_true rfl)) dX9_temperature_9 ⟨(Nat.le_of_ble_eq_true rfl), (Nat.le_of_ble_eq_true rfl)⟩) hS (fun H locs hP hS => ?_)
      refine W.widen (k := 1) (n := 6) (Nat.le_of_ble_eq_true rfl) (Nat.le_of_ble_eq_true rfl) (vx_ret ?_)
      exact W.fret (v := r2) hx hb hr (fw_xw (mk := Value.float) h hP hS) hS.2.2 dX9_temperature_12
    · rw [if_neg hk1] at h
      exact vx_out (fun z hz => (hex z hz).elim) hlocks hce hcv hcl (fw_xo h hk1 hP hS) hS.2.2 (Nat.le_of_ble_eq_true rfl) (Nat.le_of_ble_eq_true rfl)
  subst ha
  have hl := lv_entry ([.ref (fw_ad E 0 10), .int x1]) (n := 2) (Nat.le_of_ble_eq_true rfl)
  rw [lg_entry_eq]
  generalize (lg_sl ([.ref (fw_ad E 0 10), .int x1]) ++ List.replicate (2 - (lg_sl ([.ref (fw_ad E 0 10), .int x1])).length) Slot.unset).toArray = ls at hl ⊢
  exact EN s.heap [] ls hP va_S.rf hl
set_option maxHeartbeats 4000000 in
set_option maxRecDepth 100000 in
theorem k_X9_bitsOf (l : Launch) {E : fw_E} {o : Int64} {d : UInt64} (hE : fw_ok E) {μ : fw_M} (x0 : UInt32) {r : Int32} (h : f_X9_bitsOf μ x0 = some r) : Met l yX9_bitsOf (fw_ws yX9_bitsOf cX9_bitsOf 3 (some .int)) ({ frames := 0, cells := 0, slots := 0, locals := 0 } : Room) (va_Pc [.float x0] (fw_Pre E o d μ)) (fw_Q E o d (some (.int r)) μ) 0 0 (fw_A E) := by
  refine Met.ofW (cc := cX9_bitsOf) (maxL := 3) (ret := (some .int)) (by decide) rfl ?_
  intro p e s m args below meth c s₁ B hml hv
  obtain ⟨ha, hK, hP, hSt⟩ := hv
  have hx := B.exec
  have hb := B.bytes
  have hr := B.returns
  have hts := atoms_spec (ws := fw_ws yX9_bitsOf cX9_bitsOf 3 (some .int)) B.pre
  have hU : ∀ w ∈ fw_U, w.before args s = true := fun w hw => hts w (List.mem_cons_of_mem _ hw)
  have hown : s.vm.findClass RX9 = some m.cls := findClass_of_methodNamed B.named
  have hlocks := B.notSynchronized
  have J36 : ∀ (x1 : UInt32) (x2 : Int32) (H : Heap) (locs : List Loc) (ls : Array Slot), f_X9_bitsOf_J36 μ x1 x2 = some r → fw_P E o d μ H → va_S (fw_A E) s.heap H locs → lv_has ls 3 [(1, .float x1), (2, .int x2)] → W p l e (headSpec (fw_ws yX9_bitsOf cX9_bitsOf 3 (some .int)) ({ frames := 0, cells := 0, slots := 0, locals := 0 } : Room)).room s m args below meth c H locs 0 0 (MQ below (fw_Q E o d (some (.int r)) μ) args s 0 0 (fw_A E)) (F0 m 36 ls []) := by
    intro x1 x2 H locs ls h hP hS hl
    unfold f_X9_bitsOf_J36 at h
    refine lv_iload_n hx hb dX9_bitsOf_36 rfl (lv_at hl 1 rfl) ?_
    refine lv_bipush (v := (23 : Int32)) hx hb dX9_bitsOf_37 (by decide) ?_
    refine lv_ishl hx hb dX9_bitsOf_39 ?_
    refine lv_fload_n hx hb dX9_bitsOf_40 rfl (lv_at hl 0 rfl) ?_
    refine lv_fconst1 hx hb dX9_bitsOf_41 ?_
    obtain ⟨g5, h⟩ := fw_g_e h
    refine lv_fsub hx hb dX9_bitsOf_42 (fw_f32_e g5) ?_
    refine fw_ldcfw (v := (1258291200 : UInt32)) hx hb hown (hU (Cond.constantFloat RX9 367 (1258291200 : UInt32)) m_763) dX9_bitsOf_43 ?_
    obtain ⟨g6, h⟩ := fw_g_e h
    refine lv_fmul hx hb dX9_bitsOf_46 (fw_f32_e g6) ?_
    refine lv_f2i hx hb dX9_bitsOf_47 ?_
    refine lv_ior hx hb dX9_bitsOf_48 ?_
    exact W.iret (v := ((x2 <<< ((23 : Int32) &&& (31 : Int32))) ||| (FP.f2i (FP.fmul (FP.fsub x1 FP.fconst1) (1258291200 : UInt32))))) hx hb hr (fw_er (mk := Value.int) h hP hS) hS.2.2 dX9_bitsOf_49
  have L13 : ∀ (n : Nat) (x1 : UInt32) (x2 : Int32) (H : Heap) (locs : List Loc) (ls : Array Slot), f_X9_bitsOf_L13 μ n x1 x2 = some r → fw_P E o d μ H → va_S (fw_A E) s.heap H locs → lv_has ls 3 [(1, .float x1), (2, .int x2)] → W p l e (headSpec (fw_ws yX9_bitsOf cX9_bitsOf 3 (some .int)) ({ frames := 0, cells := 0, slots := 0, locals := 0 } : Room)).room s m args below meth c H locs 0 0 (MQ below (fw_Q E o d (some (.int r)) μ) args s 0 0 (fw_A E)) (F0 m 13 ls []) := by
    intro n13
    induction n13 with
    | zero => intro x1 x2 H locs ls h; rw [f_X9_bitsOf_L13] at h; cases h
    | succ n13 ih13 =>
      intro x1 x2 H locs ls h hP hS hl
      rw [f_X9_bitsOf_L13] at h
      refine lv_fload_n hx hb dX9_bitsOf_13 rfl (lv_at hl 0 rfl) ?_
      refine lv_fconst2 hx hb dX9_bitsOf_14 ?_
      refine lv_fcmp (op := CmpOp.l) hx hb dX9_bitsOf_15 ?_
      refine lv_if_lt (tgt := 36) hx hb dX9_bitsOf_16 (by decide) (fun c2 => ?_) (fun c2 => ?_)
      · rw [if_pos c2] at h
        exact J36 x1 x2 H locs ls h hP hS (lv_sub hl [0, 1] rfl)
      · rw [if_neg c2] at h
        refine lv_iload_n hx hb dX9_bitsOf_19 rfl (lv_at hl 1 rfl) ?_
        refine lv_sipush (v := (254 : Int32)) hx hb dX9_bitsOf_20 (by decide) ?_
        refine lv_icmp_ge (tgt := 36) hx hb dX9_bitsOf_23 (by decide) (fun c3 => ?_) (fun c3 => ?_)
        · rw [if_pos c3] at h
          exact J36 x1 x2 H locs ls h hP hS (lv_sub hl [0, 1] rfl)
        · rw [if_neg c3] at h
          refine lv_fload_n hx hb dX9_bitsOf_26 rfl (lv_at hl 0 rfl) ?_
          refine lv_fconst2 hx hb dX9_bitsOf_27 ?_
          obtain ⟨g4, h⟩ := fw_g_e h
          refine lv_fdiv hx hb dX9_bitsOf_28 (fw_f32_e g4) ?_
          refine lv_fstore_n (lv' := [(1, .float (FP.fdiv x1 FP.fconst2)), (2, .int x2)]) hx hb dX9_bitsOf_29 rfl hl (by decide) rfl (fun ls hl => ?_)
          refine lv_iinc (v := (x2 + (1 : Int32))) (lv' := [(2, .int (x2 + (1 : Int32))), (1, .float (FP.fdiv x1 FP.fconst2))]) hx hb dX9_bitsOf_30 hl (k := 1) rfl rfl (by decide) rfl (fun ls hl => ?_)
          refine lv_goto (tgt := 13) hx hb dX9_bitsOf_33 (by decide) ?_
          exact ih13 (FP.fdiv x1 FP.fconst2) (x2 + (1 : Int32)) H locs ls h hP hS (lv_sub hl [1, 0] rfl)
  have EN : ∀ (H : Heap) (locs : List Loc) (ls : Array Slot), fw_P E o d μ H → va_S (fw_A E) s.heap H locs → lv_has ls 3 [(0, .float x0)] → W p l e (headSpec (fw_ws yX9_bitsOf cX9_bitsOf 3 (some .int)) ({ frames := 0, cells := 0, slots := 0, locals := 0 } : Room)).room s m args below meth c H locs 0 0 (MQ below (fw_Q E o d (some (.int r)) μ) args s 0 0 (fw_A E)) (F0 m 0 ls []) := by
    intro H locs ls hP hS hl
    unfold f_X9_bitsOf at h
    refine lv_fload_n hx hb dX9_bitsOf_0 rfl (lv_at hl 0 rfl) ?_
    refine lv_fconst1 hx hb dX9_bitsOf_1 ?_
    refine lv_fcmp (op := CmpOp.g) hx hb dX9_bitsOf_2 ?_
    refine lv_if_ge (tgt := 8) hx hb dX9_bitsOf_3 (by decide) (fun c1 => ?_) (fun c1 => ?_)
    · rw [if_pos c1] at h
      refine lv_fload_n hx hb dX9_bitsOf_8 rfl (lv_at hl 0 rfl) ?_
      refine lv_fstore_n (lv' := [(1, .float x0), (0, .float x0)]) hx hb dX9_bitsOf_9 rfl hl (by decide) rfl (fun ls hl => ?_)
      refine lv_bipush (v := (127 : Int32)) hx hb dX9_bitsOf_10 (by decide) ?_
      refine lv_istore_n (lv' := [(2, .int (127 : Int32)), (1, .float x0), (0, .float x0)]) hx hb dX9_bitsOf_12 rfl hl (by decide) rfl (fun ls hl => ?_)
      exact L13 1000 x0 (127 : Int32) H locs ls h hP hS (lv_sub hl [1, 0] rfl)
    · rw [if_neg c1] at h
      refine lv_iconst (v := (0 : Int32)) hx hb dX9_bitsOf_6 (by decide) ?_
      exact W.iret (v := (0 : Int32)) hx hb hr (fw_er (mk := Value.int) h hP hS) hS.2.2 dX9_bitsOf_7
  subst ha
  have hl := lv_entry ([.float x0]) (n := 3) (Nat.le_of_ble_eq_true rfl)
  rw [lg_entry_eq]
  generalize (lg_sl ([.float x0]) ++ List.replicate (3 - (lg_sl ([.float x0])).length) Slot.unset).toArray = ls at hl ⊢
  exact EN s.heap [] ls hP va_S.rf hl
set_option maxHeartbeats 4000000 in
set_option maxRecDepth 100000 in
theorem k_X9_temperatureBits (l : Launch) (hst : l.stackTraces = false) {E : fw_E} {o : Int64} {d : UInt64} (hE : fw_ok E) {μ μ' : fw_M} (x1 : Int32) {r : Int32} {k : Nat} (h : f_X9_temperatureBits μ x1 = some (μ', r, k)) : vx_Met l yX9_temperatureBits (fw_ws yX9_temperatureBits cX9_temperatureBits 2 (some .int)) ({ frames := 7, cells := 1, slots := 6, locals := 110 } : Room) (va_Pc [.ref (fw_ad E 0 10), .int x1] (fw_Pre E o d μ)) (fw_QR E o d k (some (.int r)) μ') (fw_XC E o d k μ') 1 6 (fw_A E) := by
  refine vx_ofW (cc := cX9_temperatureBits) (maxL := 2) (ret := (some .int)) (by decide) rfl ?_
  intro p e s m args below meth c s₁ B hml hex hv
  obtain ⟨ha, hK, hP, hSt⟩ := hv
  have hx := B.exec
  have hb := B.bytes
  have hr := B.returns
  have hts := atoms_spec (ws := fw_ws yX9_temperatureBits cX9_temperatureBits 2 (some .int)) B.pre
  have hU : ∀ w ∈ fw_U, w.before args s = true := fun w hw => hts w (List.mem_cons_of_mem _ hw)
  have hown : s.vm.findClass RX9 = some m.cls := findClass_of_methodNamed B.named
  have hlocks := B.notSynchronized
  have EN : ∀ (H : Heap) (locs : List Loc) (ls : Array Slot), fw_P E o d μ H → va_S (fw_A E) s.heap H locs → lv_has ls 2 [(0, .ref (fw_ad E 0 10)), (1, .int x1)] → W p l e (headSpec (fw_ws yX9_temperatureBits cX9_temperatureBits 2 (some .int)) ({ frames := 7, cells := 1, slots := 6, locals := 110 } : Room)).room s m args below meth c H locs 0 0 (vx_MQ below (fw_QR E o d k (some (.int r)) μ') (fw_XC E o d k μ') args s 1 6 (fw_A E)) (F0 m 0 ls []) := by
    intro H locs ls hP hS hl
    unfold f_X9_temperatureBits at h
    refine lv_iload_n hx hb dX9_temperatureBits_0 rfl (lv_at hl 1 rfl) ?_
    obtain ⟨μ1, r1, k1, hc1, h⟩ := fw_b3_e h
    refine fw_xretv (vx_runS (As := [.int x1]) (rest := []) ⟨hx, hb, hml, hown, hU⟩ (k_X9_requireMachine l hst hE x1 hc1) (va_cwS 1 hU (fw_gS m_741 m_742 m_1 m_743) rfl rfl rfl (by decide +kernel) ⟨(Nat.le_of_ble_eq_true rfl), (Nat.le_of_ble_eq_true rfl)⟩) ⟨fw_blind, fun U hU9 hW9 => ⟨rfl, fw_pre hK hP hSt hS U hU9 hW9⟩⟩ rfl rfl hl.1 rfl (lv_room (Nat.le_of_ble_eq_true rfl)) dX9_temperatureBits_1 ⟨(Nat.le_of_ble_eq_true rfl), (Nat.le_of_ble_eq_true rfl)⟩) hS (fun hk1 H locs hP hS => ?_) (fun hk1 H locs q ce hP hS hce hcv hcl => ?_)
    · rw [if_pos hk1] at h
      refine lv_aload_n hx hb dX9_temperatureBits_4 rfl (lv_at hl 0 rfl) ?_
      refine va_get (D := fw_D E) (ci := 7) (v := .ref (fw_ad E 0 0)) (C := RX9) (T := TX9) (N := 9) hx hb hU inU9 hown hK (fw_at hP (fw_V0 (f := 10) (by decide) (by decide))) 0 rfl rfl 0 (by decide) (hU (Cond.fieldLink RX9 12 "LaundryService" "state" "LLaundryService$State;") m_193) (fun _ h9 => h9) rfl dX9_temperatureBits_5 ?_
      refine lv_iload_n hx hb dX9_temperatureBits_8 rfl (lv_at hl 1 rfl) ?_
      obtain ⟨r2, hc2, h⟩ := fw_b1_e h
      refine fw_ret (va_runV (As := [.int x1]) (rest := []) ⟨hx, hb, hml, hown, hU⟩ (k_X7_degrees l hE (by decide) x1 hc2) (cwV 1 hU (fw_gV m_583 m_584 m_585 m_2 m_586) rfl rfl rfl (by decide +kernel) ⟨(Nat.le_of_ble_eq_true rfl), (Nat.le_of_ble_eq_true rfl)⟩) ⟨fw_blind, fw_recv hK hP (fw_Vs (f := 0) (by decide) (by decide)) rfl rfl, fun U hU9 hW9 => ⟨rfl, fw_pre hK hP hSt hS U hU9 hW9⟩⟩ rfl rfl hl.1 rfl (lv_room (Nat.le_of_ble_eq_true rfl)) dX9_temperatureBits_9 ⟨(Nat.le_of_ble_eq_true rfl), (Nat.le_of_ble_eq_true rfl)⟩) hS (fun H locs hP hS => ?_)
      obtain ⟨r3, hc3, h⟩ := fw_b1_e h
      refine fw_ret (va_runS (As := [.float r2]) (rest := []) ⟨hx, hb, hml, hown, hU⟩ (k_X9_bitsOf l hE r2 hc3) (va_cwS 1 hU (fw_gS m_760 m_761 m_1 m_762) rfl rfl rfl (by decide +kernel) ⟨(Nat.le_of_ble_eq_true rfl), (Nat.le_of_ble_eq_true rfl)⟩) ⟨fw_blind, fun U hU9 hW9 => ⟨rfl, fw_pre hK hP hSt hS U hU9 hW9⟩⟩ rfl rfl hl.1 rfl (lv_room (Nat.le_of_ble_eq_true rfl)) dX9_temperatureBits_12 ⟨(Nat.le_of_ble_eq_true rfl), (Nat.le_of_ble_eq_true rfl)⟩) hS (fun H locs hP hS => ?_)
      refine W.widen (k := 1) (n := 6) (Nat.le_of_ble_eq_true rfl) (Nat.le_of_ble_eq_true rfl) (vx_ret ?_)
      exact W.iret (v := r3) hx hb hr (fw_xw (mk := Value.int) h hP hS) hS.2.2 dX9_temperatureBits_15
    · rw [if_neg hk1] at h
      exact vx_out (fun z hz => (hex z hz).elim) hlocks hce hcv hcl (fw_xo h hk1 hP hS) hS.2.2 (Nat.le_of_ble_eq_true rfl) (Nat.le_of_ble_eq_true rfl)
  subst ha
  have hl := lv_entry ([.ref (fw_ad E 0 10), .int x1]) (n := 2) (Nat.le_of_ble_eq_true rfl)
  rw [lg_entry_eq]
  generalize (lg_sl ([.ref (fw_ad E 0 10), .int x1]) ++ List.replicate (2 - (lg_sl ([.ref (fw_ad E 0 10), .int x1])).length) Slot.unset).toArray = ls at hl ⊢
  exact EN s.heap [] ls hP va_S.rf hl
set_option maxHeartbeats 4000000 in
set_option maxRecDepth 100000 in
theorem k_X9_washableStains (l : Launch) (hst : l.stackTraces = false) {E : fw_E} {o : Int64} {d : UInt64} (hE : fw_ok E) {μ μ' : fw_M} (x1 : Int32) {r : Int32} {k : Nat} (h : f_X9_washableStains μ x1 = some (μ', r, k)) : vx_Met l yX9_washableStains (fw_ws yX9_washableStains cX9_washableStains 2 (some .int)) ({ frames := 7, cells := 1, slots := 6, locals := 110 } : Room) (va_Pc [.ref (fw_ad E 0 10), .int x1] (fw_Pre E o d μ)) (fw_QR E o d k (some (.int r)) μ') (fw_XC E o d k μ') 1 6 (fw_A E) := by
  refine vx_ofW (cc := cX9_washableStains) (maxL := 2) (ret := (some .int)) (by decide) rfl ?_
  intro p e s m args below meth c s₁ B hml hex hv
  obtain ⟨ha, hK, hP, hSt⟩ := hv
  have hx := B.exec
  have hb := B.bytes
  have hr := B.returns
  have hts := atoms_spec (ws := fw_ws yX9_washableStains cX9_washableStains 2 (some .int)) B.pre
  have hU : ∀ w ∈ fw_U, w.before args s = true := fun w hw => hts w (List.mem_cons_of_mem _ hw)
  have hown : s.vm.findClass RX9 = some m.cls := findClass_of_methodNamed B.named
  have hlocks := B.notSynchronized
  have EN : ∀ (H : Heap) (locs : List Loc) (ls : Array Slot), fw_P E o d μ H → va_S (fw_A E) s.heap H locs → lv_has ls 2 [(0, .ref (fw_ad E 0 10)), (1, .int x1)] → W p l e (headSpec (fw_ws yX9_washableStains cX9_washableStains 2 (some .int)) ({ frames := 7, cells := 1, slots := 6, locals := 110 } : Room)).room s m args below meth c H locs 0 0 (vx_MQ below (fw_QR E o d k (some (.int r)) μ') (fw_XC E o d k μ') args s 1 6 (fw_A E)) (F0 m 0 ls []) := by
    intro H locs ls hP hS hl
    unfold f_X9_washableStains at h
    refine lv_iload_n hx hb dX9_washableStains_0 rfl (lv_at hl 1 rfl) ?_
    obtain ⟨μ1, r1, k1, hc1, h⟩ := fw_b3_e h
    refine fw_xretv (vx_runS (As := [.int x1]) (rest := []) ⟨hx, hb, hml, hown, hU⟩ (k_X9_requireMachine l hst hE x1 hc1) (va_cwS 1 hU (fw_gS m_741 m_742 m_1 m_743) rfl rfl rfl (by decide +kernel) ⟨(Nat.le_of_ble_eq_true rfl), (Nat.le_of_ble_eq_true rfl)⟩) ⟨fw_blind, fun U hU9 hW9 => ⟨rfl, fw_pre hK hP hSt hS U hU9 hW9⟩⟩ rfl rfl hl.1 rfl (lv_room (Nat.le_of_ble_eq_true rfl)) dX9_washableStains_1 ⟨(Nat.le_of_ble_eq_true rfl), (Nat.le_of_ble_eq_true rfl)⟩) hS (fun hk1 H locs hP hS => ?_) (fun hk1 H locs q ce hP hS hce hcv hcl => ?_)
    · rw [if_pos hk1] at h
      refine lv_aload_n hx hb dX9_washableStains_4 rfl (lv_at hl 0 rfl) ?_
      refine va_get (D := fw_D E) (ci := 7) (v := .ref (fw_ad E 0 0)) (C := RX9) (T := TX9) (N := 9) hx hb hU inU9 hown hK (fw_at hP (fw_V0 (f := 10) (by decide) (by decide))) 0 rfl rfl 0 (by decide) (hU (Cond.fieldLink RX9 12 "LaundryService" "state" "LLaundryService$State;") m_193) (fun _ h9 => h9) rfl dX9_washableStains_5 ?_
      refine va_get (D := fw_D E) (ci := 6) (v := .ref (fw_ad E 0 7)) (C := RX7) (T := TX7) (N := 10) hx hb hU inU7 hown hK (fw_at hP (fw_Vs (f := 0) (by decide) (by decide))) 0 rfl rfl 7 (by decide) (hU (Cond.fieldLink RX9 96 "LaundryService$State" "halves" "[I") m_71) (fun _ h9 => h9) rfl dX9_washableStains_8 ?_
      refine lv_iload_n hx hb dX9_washableStains_11 rfl (lv_at hl 1 rfl) ?_
      obtain ⟨g2, h⟩ := fw_g_e h
      refine va_iald (D := fw_D E) hx hb hK (fw_at hP (fw_Vs (f := 7) (by decide) (by decide))) 0 0 rfl rfl (fw_in_e g2) dX9_washableStains_12 ?_
      obtain ⟨r3, hc3, h⟩ := fw_b1_e h
      refine fw_ret (va_runS (As := [.int (μ1 0 7 x1.toNatClampNeg)]) (rest := []) ⟨hx, hb, hml, hown, hU⟩ (k_X8_removedAt l hE (μ1 0 7 x1.toNatClampNeg) hc3) (va_cwS 1 hU (fw_gS m_771 m_249 m_23 m_250) rfl rfl rfl (by decide +kernel) ⟨(Nat.le_of_ble_eq_true rfl), (Nat.le_of_ble_eq_true rfl)⟩) ⟨fw_blind, fun U hU9 hW9 => ⟨rfl, fw_pre hK hP hSt hS U hU9 hW9⟩⟩ rfl rfl hl.1 rfl (lv_room (Nat.le_of_ble_eq_true rfl)) dX9_washableStains_13 ⟨(Nat.le_of_ble_eq_true rfl), (Nat.le_of_ble_eq_true rfl)⟩) hS (fun H locs hP hS => ?_)
      refine W.widen (k := 1) (n := 6) (Nat.le_of_ble_eq_true rfl) (Nat.le_of_ble_eq_true rfl) (vx_ret ?_)
      exact W.iret (v := r3) hx hb hr (fw_xw (mk := Value.int) h hP hS) hS.2.2 dX9_washableStains_16
    · rw [if_neg hk1] at h
      exact vx_out (fun z hz => (hex z hz).elim) hlocks hce hcv hcl (fw_xo h hk1 hP hS) hS.2.2 (Nat.le_of_ble_eq_true rfl) (Nat.le_of_ble_eq_true rfl)
  subst ha
  have hl := lv_entry ([.ref (fw_ad E 0 10), .int x1]) (n := 2) (Nat.le_of_ble_eq_true rfl)
  rw [lg_entry_eq]
  generalize (lg_sl ([.ref (fw_ad E 0 10), .int x1]) ++ List.replicate (2 - (lg_sl ([.ref (fw_ad E 0 10), .int x1])).length) Slot.unset).toArray = ls at hl ⊢
  exact EN s.heap [] ls hP va_S.rf hl
set_option maxHeartbeats 4000000 in
set_option maxRecDepth 100000 in
theorem k_X9_commonStains (l : Launch) (hst : l.stackTraces = false) {E : fw_E} {o : Int64} {d : UInt64} (hE : fw_ok E) {μ μ' : fw_M} (x1 : Int32) {r : Int32} {k : Nat} (h : f_X9_commonStains μ x1 = some (μ', r, k)) : vx_Met l yX9_commonStains (fw_ws yX9_commonStains cX9_commonStains 2 (some .int)) ({ frames := 7, cells := 1, slots := 6, locals := 110 } : Room) (va_Pc [.ref (fw_ad E 0 10), .int x1] (fw_Pre E o d μ)) (fw_QR E o d k (some (.int r)) μ') (fw_XC E o d k μ') 1 6 (fw_A E) := by
  refine vx_ofW (cc := cX9_commonStains) (maxL := 2) (ret := (some .int)) (by decide) rfl ?_
  intro p e s m args below meth c s₁ B hml hex hv
  obtain ⟨ha, hK, hP, hSt⟩ := hv
  have hx := B.exec
  have hb := B.bytes
  have hr := B.returns
  have hts := atoms_spec (ws := fw_ws yX9_commonStains cX9_commonStains 2 (some .int)) B.pre
  have hU : ∀ w ∈ fw_U, w.before args s = true := fun w hw => hts w (List.mem_cons_of_mem _ hw)
  have hown : s.vm.findClass RX9 = some m.cls := findClass_of_methodNamed B.named
  have hlocks := B.notSynchronized
  have EN : ∀ (H : Heap) (locs : List Loc) (ls : Array Slot), fw_P E o d μ H → va_S (fw_A E) s.heap H locs → lv_has ls 2 [(0, .ref (fw_ad E 0 10)), (1, .int x1)] → W p l e (headSpec (fw_ws yX9_commonStains cX9_commonStains 2 (some .int)) ({ frames := 7, cells := 1, slots := 6, locals := 110 } : Room)).room s m args below meth c H locs 0 0 (vx_MQ below (fw_QR E o d k (some (.int r)) μ') (fw_XC E o d k μ') args s 1 6 (fw_A E)) (F0 m 0 ls []) := by
    intro H locs ls hP hS hl
    unfold f_X9_commonStains at h
    refine lv_iload_n hx hb dX9_commonStains_0 rfl (lv_at hl 1 rfl) ?_
    obtain ⟨μ1, r1, k1, hc1, h⟩ := fw_b3_e h
    refine fw_xretv (vx_runS (As := [.int x1]) (rest := []) ⟨hx, hb, hml, hown, hU⟩ (k_X9_requireMachine l hst hE x1 hc1) (va_cwS 1 hU (fw_gS m_741 m_742 m_1 m_743) rfl rfl rfl (by decide +kernel) ⟨(Nat.le_of_ble_eq_true rfl), (Nat.le_of_ble_eq_true rfl)⟩) ⟨fw_blind, fun U hU9 hW9 => ⟨rfl, fw_pre hK hP hSt hS U hU9 hW9⟩⟩ rfl rfl hl.1 rfl (lv_room (Nat.le_of_ble_eq_true rfl)) dX9_commonStains_1 ⟨(Nat.le_of_ble_eq_true rfl), (Nat.le_of_ble_eq_true rfl)⟩) hS (fun hk1 H locs hP hS => ?_) (fun hk1 H locs q ce hP hS hce hcv hcl => ?_)
    · rw [if_pos hk1] at h
      refine lv_aload_n hx hb dX9_commonStains_4 rfl (lv_at hl 0 rfl) ?_
      refine va_get (D := fw_D E) (ci := 7) (v := .ref (fw_ad E 0 0)) (C := RX9) (T := TX9) (N := 9) hx hb hU inU9 hown hK (fw_at hP (fw_V0 (f := 10) (by decide) (by decide))) 0 rfl rfl 0 (by decide) (hU (Cond.fieldLink RX9 12 "LaundryService" "state" "LLaundryService$State;") m_193) (fun _ h9 => h9) rfl dX9_commonStains_5 ?_
      refine lv_iload_n hx hb dX9_commonStains_8 rfl (lv_at hl 1 rfl) ?_
      obtain ⟨r2, hc2, h⟩ := fw_b1_e h
      refine fw_ret (va_runV (As := [.int x1]) (rest := []) ⟨hx, hb, hml, hown, hU⟩ (k_X7_stainsOfAllIn l hE (by decide) x1 hc2) (cwV 1 hU (fw_gV m_779 m_780 m_781 m_2 m_782) rfl rfl rfl (by decide +kernel) ⟨(Nat.le_of_ble_eq_true rfl), (Nat.le_of_ble_eq_true rfl)⟩) ⟨fw_blind, fw_recv hK hP (fw_Vs (f := 0) (by decide) (by decide)) rfl rfl, fun U hU9 hW9 => ⟨rfl, fw_pre hK hP hSt hS U hU9 hW9⟩⟩ rfl rfl hl.1 rfl (lv_room (Nat.le_of_ble_eq_true rfl)) dX9_commonStains_9 ⟨(Nat.le_of_ble_eq_true rfl), (Nat.le_of_ble_eq_true rfl)⟩) hS (fun H locs hP hS => ?_)
      refine W.widen (k := 1) (n := 6) (Nat.le_of_ble_eq_true rfl) (Nat.le_of_ble_eq_true rfl) (vx_ret ?_)
      exact W.iret (v := r2) hx hb hr (fw_xw (mk := Value.int) h hP hS) hS.2.2 dX9_commonStains_12
    · rw [if_neg hk1] at h
      exact vx_out (fun z hz => (hex z hz).elim) hlocks hce hcv hcl (fw_xo h hk1 hP hS) hS.2.2 (Nat.le_of_ble_eq_true rfl) (Nat.le_of_ble_eq_true rfl)
  subst ha
  have hl := lv_entry ([.ref (fw_ad E 0 10), .int x1]) (n := 2) (Nat.le_of_ble_eq_true rfl)
  rw [lg_entry_eq]
  generalize (lg_sl ([.ref (fw_ad E 0 10), .int x1]) ++ List.replicate (2 - (lg_sl ([.ref (fw_ad E 0 10), .int x1])).length) Slot.unset).toArray = ls at hl ⊢
  exact EN s.heap [] ls hP va_S.rf hl
set_option maxHeartbeats 4000000 in
set_option maxRecDepth 100000 in
theorem k_X9_coloursIn (l : Launch) (hst : l.stackTraces = false) {E : fw_E} {o : Int64} {d : UInt64} (hE : fw_ok E) {μ μ' : fw_M} (x1 : Int32) {r : Int32} {k : Nat} (h : f_X9_coloursIn μ x1 = some (μ', r, k)) : vx_Met l yX9_coloursIn (fw_ws yX9_coloursIn cX9_coloursIn 2 (some .int)) ({ frames := 7, cells := 1, slots := 6, locals := 110 } : Room) (va_Pc [.ref (fw_ad E 0 10), .int x1] (fw_Pre E o d μ)) (fw_QR E o d k (some (.int r)) μ') (fw_XC E o d k μ') 1 6 (fw_A E) := by
  refine vx_ofW (cc := cX9_coloursIn) (maxL := 2) (ret := (some .int)) (by decide) rfl ?_
  intro p e s m args below meth c s₁ B hml hex hv
  obtain ⟨ha, hK, hP, hSt⟩ := hv
  have hx := B.exec
  have hb := B.bytes
  have hr := B.returns
  have hts := atoms_spec (ws := fw_ws yX9_coloursIn cX9_coloursIn 2 (some .int)) B.pre
  have hU : ∀ w ∈ fw_U, w.before args s = true := fun w hw => hts w (List.mem_cons_of_mem _ hw)
  have hown : s.vm.findClass RX9 = some m.cls := findClass_of_methodNamed B.named
  have hlocks := B.notSynchronized
  have EN : ∀ (H : Heap) (locs : List Loc) (ls : Array Slot), fw_P E o d μ H → va_S (fw_A E) s.heap H locs → lv_has ls 2 [(0, .ref (fw_ad E 0 10)), (1, .int x1)] → W p l e (headSpec (fw_ws yX9_coloursIn cX9_coloursIn 2 (some .int)) ({ frames := 7, cells := 1, slots := 6, locals := 110 } : Room)).room s m args below meth c H locs 0 0 (vx_MQ below (fw_QR E o d k (some (.int r)) μ') (fw_XC E o d k μ') args s 1 6 (fw_A E)) (F0 m 0 ls []) := by
    intro H locs ls hP hS hl
    unfold f_X9_coloursIn at h
    refine lv_iload_n hx hb dX9_coloursIn_0 rfl (lv_at hl 1 rfl) ?_
    obtain ⟨μ1, r1, k1, hc1, h⟩ := fw_b3_e h
    refine fw_xretv (vx_runS (As := [.int x1]) (rest := []) ⟨hx, hb, hml, hown, hU⟩ (k_X9_requireMachine l hst hE x1 hc1) (va_cwS 1 hU (fw_gS m_741 m_742 m_1 m_743) rfl rfl rfl (by decide +kernel) ⟨(Nat.le_of_ble_eq_true rfl), (Nat.le_of_ble_eq_true rfl)⟩) ⟨fw_blind, fun U hU9 hW9 => ⟨rfl, fw_pre hK hP hSt hS U hU9 hW9⟩⟩ rfl rfl hl.1 rfl (lv_room (Nat.le_of_ble_eq_true rfl)) dX9_coloursIn_1 ⟨(Nat.le_of_ble_eq_true rfl), (Nat.le_of_ble_eq_true rfl)⟩) hS (fun hk1 H locs hP hS => ?_) (fun hk1 H locs q ce hP hS hce hcv hcl => ?_)
    · rw [if_pos hk1] at h
      refine lv_aload_n hx hb dX9_coloursIn_4 rfl (lv_at hl 0 rfl) ?_
      refine va_get (D := fw_D E) (ci := 7) (v := .ref (fw_ad E 0 0)) (C := RX9) (T := TX9) (N := 9) hx hb hU inU9 hown hK (fw_at hP (fw_V0 (f := 10) (by decide) (by decide))) 0 rfl rfl 0 (by decide) (hU (Cond.fieldLink RX9 12 "LaundryService" "state" "LLaundryService$State;") m_193) (fun _ h9 => h9) rfl dX9_coloursIn_5 ?_
      refine lv_iload_n hx hb dX9_coloursIn_8 rfl (lv_at hl 1 rfl) ?_
      obtain ⟨r2, hc2, h⟩ := fw_b1_e h
      refine fw_ret (va_runV (As := [.int x1]) (rest := []) ⟨hx, hb, hml, hown, hU⟩ (k_X7_coloursOfLoad l hE (by decide) x1 hc2) (cwV 1 hU (fw_gV m_790 m_791 m_792 m_2 m_793) rfl rfl rfl (by decide +kernel) ⟨(Nat.le_of_ble_eq_true rfl), (Nat.le_of_ble_eq_true rfl)⟩) ⟨fw_blind, fw_recv hK hP (fw_Vs (f := 0) (by decide) (by decide)) rfl rfl, fun U hU9 hW9 => ⟨rfl, fw_pre hK hP hSt hS U hU9 hW9⟩⟩ rfl rfl hl.1 rfl (lv_room (Nat.le_of_ble_eq_true rfl)) dX9_coloursIn_9 ⟨(Nat.le_of_ble_eq_true rfl), (Nat.le_of_ble_eq_true rfl)⟩) hS (fun H locs hP hS => ?_)
      refine W.widen (k := 1) (n := 6) (Nat.le_of_ble_eq_true rfl) (Nat.le_of_ble_eq_true rfl) (vx_ret ?_)
      exact W.iret (v := r2) hx hb hr (fw_xw (mk := Value.int) h hP hS) hS.2.2 dX9_coloursIn_12
    · rw [if_neg hk1] at h
      exact vx_out (fun z hz => (hex z hz).elim) hlocks hce hcv hcl (fw_xo h hk1 hP hS) hS.2.2 (Nat.le_of_ble_eq_true rfl) (Nat.le_of_ble_eq_true rfl)
  subst ha
  have hl := lv_entry ([.ref (fw_ad E 0 10), .int x1]) (n := 2) (Nat.le_of_ble_eq_true rfl)
  rw [lg_entry_eq]
  generalize (lg_sl ([.ref (fw_ad E 0 10), .int x1]) ++ List.replicate (2 - (lg_sl ([.ref (fw_ad E 0 10), .int x1])).length) Slot.unset).toArray = ls at hl ⊢
  exact EN s.heap [] ls hP va_S.rf hl
set_option maxHeartbeats 4000000 in
set_option maxRecDepth 100000 in
theorem k_X9_damageOfTrial (l : Launch) {E : fw_E} {o : Int64} {d : UInt64} (hE : fw_ok E) {μ μ' : fw_M} (x1 : Int32) {r : Int32} (h : f_X9_damageOfTrial μ x1 = some (μ', r)) : Met l yX9_damageOfTrial (fw_ws yX9_damageOfTrial cX9_damageOfTrial 2 (some .int)) ({ frames := 4, cells := 0, slots := 0, locals := 93 } : Room) (va_Pc [.ref (fw_ad E 0 10), .int x1] (fw_Pre E o d μ)) (fw_Q E o d (some (.int r)) μ') 0 0 (fw_A E) := by
  refine Met.ofW (cc := cX9_damageOfTrial) (maxL := 2) (ret := (some .int)) (by decide) rfl ?_
  intro p e s m args below meth c s₁ B hml hv
  obtain ⟨ha, hK, hP, hSt⟩ := hv
  have hx := B.exec
  have hb := B.bytes
  have hr := B.returns
  have hts := atoms_spec (ws := fw_ws yX9_damageOfTrial cX9_damageOfTrial 2 (some .int)) B.pre
  have hU : ∀ w ∈ fw_U, w.before args s = true := fun w hw => hts w (List.mem_cons_of_mem _ hw)
  have hown : s.vm.findClass RX9 = some m.cls := findClass_of_methodNamed B.named
  have hlocks := B.notSynchronized
  have EN : ∀ (H : Heap) (locs : List Loc) (ls : Array Slot), fw_P E o d μ H → va_S (fw_A E) s.heap H locs → lv_has ls 2 [(0, .ref (fw_ad E 0 10)), (1, .int x1)] → W p l e (headSpec (fw_ws yX9_damageOfTrial cX9_damageOfTrial 2 (some .int)) ({ frames := 4, cells := 0, slots := 0, locals := 93 } : Room)).room s m args below meth c H locs 0 0 (MQ below (fw_Q E o d (some (.int r)) μ') args s 0 0 (fw_A E)) (F0 m 0 ls []) := by
    intro H locs ls hP hS hl
    unfold f_X9_damageOfTrial at h
    refine lv_aload_n hx hb dX9_damageOfTrial_0 rfl (lv_at hl 0 rfl) ?_
    refine va_get (D := fw_D E) (ci := 7) (v := .ref (fw_ad E 1 0)) (C := RX9) (T := TX9) (N := 9) hx hb hU inU9 hown hK (fw_at hP (fw_V0 (f := 10) (by decide) (by decide))) 0 rfl rfl 1 (by decide) (hU (Cond.fieldLink RX9 16 "LaundryService" "trial" "LLaundryService$State;") m_194) (fun _ h9 => h9) rfl dX9_damageOfTrial_1 ?_
    refine lv_aload_n hx hb dX9_damageOfTrial_4 rfl (lv_at hl 0 rfl) ?_
    refine va_get (D := fw_D E) (ci := 7) (v := .ref (fw_ad E 0 0)) (C := RX9) (T := TX9) (N := 9) hx hb hU inU9 hown hK (fw_at hP (fw_V0 (f := 10) (by decide) (by decide))) 0 rfl rfl 0 (by decide) (hU (Cond.fieldLink RX9 12 "LaundryService" "state" "LLaundryService$State;") m_193) (fun _ h9 => h9) rfl dX9_damageOfTrial_5 ?_
    obtain ⟨μ1, r1, hc1, h⟩ := fw_b2_e h
    refine fw_retv (va_runV (As := [.ref (fw_ad E 0 0)]) (rest := []) ⟨hx, hb, hml, hown, hU⟩ (k_X7_copyFrom l hE (by decide) (by decide) hc1) (cwV 1 hU (fw_gV m_282 m_283 m_284 m_2 m_285) rfl rfl rfl (by decide +kernel) ⟨(Nat.le_of_ble_eq_true rfl), (Nat.le_of_ble_eq_true rfl)⟩) ⟨fw_blind, fw_recv hK hP (fw_Vs (f := 0) (by decide) (by decide)) rfl rfl, fun U hU9 hW9 => ⟨rfl, fw_pre hK hP hSt hS U hU9 hW9⟩⟩ rfl rfl hl.1 rfl (lv_room (Nat.le_of_ble_eq_true rfl)) dX9_damageOfTrial_8 ⟨Nat.zero_le _, Nat.zero_le _⟩) hS (fun H locs hP hS => ?_)
    refine lv_aload_n hx hb dX9_damageOfTrial_11 rfl (lv_at hl 0 rfl) ?_
    refine va_get (D := fw_D E) (ci := 7) (v := .ref (fw_ad E 1 0)) (C := RX9) (T := TX9) (N := 9) hx hb hU inU9 hown hK (fw_at hP (fw_V0 (f := 10) (by decide) (by decide))) 0 rfl rfl 1 (by decide) (hU (Cond.fieldLink RX9 16 "LaundryService" "trial" "LLaundryService$State;") m_194) (fun _ h9 => h9) rfl dX9_damageOfTrial_12 ?_
    refine lv_iload_n hx hb dX9_damageOfTrial_15 rfl (lv_at hl 1 rfl) ?_
    obtain ⟨μ2, r2, hc2, h⟩ := fw_b2_e h
    refine fw_ret (va_runS (As := [.ref (fw_ad E 1 0), .int x1]) (rest := []) ⟨hx, hb, hml, hown, hU⟩ (k_X8_damageOfWashing l hE (by decide) x1 hc2) (va_cwS 2 hU (fw_gS m_286 m_287 m_23 m_288) rfl rfl rfl (by decide +kernel) ⟨(Nat.le_of_ble_eq_true rfl), (Nat.le_of_ble_eq_true rfl)⟩) ⟨fw_blind, fun U hU9 hW9 => ⟨rfl, fw_pre hK hP hSt hS U hU9 hW9⟩⟩ rfl rfl hl.1 rfl (lv_room (Nat.le_of_ble_eq_true rfl)) dX9_damageOfTrial_16 ⟨Nat.zero_le _, Nat.zero_le _⟩) hS (fun H locs hP hS => ?_)
    exact W.iret (v := r2) hx hb hr (fw_ew (mk := Value.int) h hP hS) hS.2.2 dX9_damageOfTrial_19
  subst ha
  have hl := lv_entry ([.ref (fw_ad E 0 10), .int x1]) (n := 2) (Nat.le_of_ble_eq_true rfl)
  rw [lg_entry_eq]
  generalize (lg_sl ([.ref (fw_ad E 0 10), .int x1]) ++ List.replicate (2 - (lg_sl ([.ref (fw_ad E 0 10), .int x1])).length) Slot.unset).toArray = ls at hl ⊢
  exact EN s.heap [] ls hP va_S.rf hl
set_option maxHeartbeats 4000000 in
set_option maxRecDepth 100000 in
theorem k_X9_damage (l : Launch) (hst : l.stackTraces = false) {E : fw_E} {o : Int64} {d : UInt64} (hE : fw_ok E) {μ μ' : fw_M} (x1 : Int32) {r : Int32} {k : Nat} (h : f_X9_damage μ x1 = some (μ', r, k)) : vx_Met l yX9_damage (fw_ws yX9_damage cX9_damage 2 (some .int)) ({ frames := 7, cells := 1, slots := 6, locals := 114 } : Room) (va_Pc [.ref (fw_ad E 0 10), .int x1] (fw_Pre E o d μ)) (fw_QR E o d k (some (.int r)) μ') (fw_XC E o d k μ') 1 6 (fw_A E) := by
  refine vx_ofW (cc := cX9_damage) (maxL := 2) (ret := (some .int)) (by decide) rfl ?_
  intro p e s m args below meth c s₁ B hml hex hv
  obtain ⟨ha, hK, hP, hSt⟩ := hv
  have hx := B.exec
  have hb := B.bytes
  have hr := B.returns
  have hts := atoms_spec (ws := fw_ws yX9_damage cX9_damage 2 (some .int)) B.pre
  have hU : ∀ w ∈ fw_U, w.before args s = true := fun w hw => hts w (List.mem_cons_of_mem _ hw)
  have hown : s.vm.findClass RX9 = some m.cls := findClass_of_methodNamed B.named
  have hlocks := B.notSynchronized
  have EN : ∀ (H : Heap) (locs : List Loc) (ls : Array Slot), fw_P E o d μ H → va_S (fw_A E) s.heap H locs → lv_has ls 2 [(0, .ref (fw_ad E 0 10)), (1, .int x1)] → W p l e (headSpec (fw_ws yX9_damage cX9_damage 2 (some .int)) ({ frames := 7, cells := 1, slots := 6, locals := 114 } : Room)).room s m args below meth c H locs 0 0 (vx_MQ below (fw_QR E o d k (some (.int r)) μ') (fw_XC E o d k μ') args s 1 6 (fw_A E)) (F0 m 0 ls []) := by
    intro H locs ls hP hS hl
    unfold f_X9_damage at h
    refine lv_iload_n hx hb dX9_damage_0 rfl (lv_at hl 1 rfl) ?_
    obtain ⟨μ1, r1, k1, hc1, h⟩ := fw_b3_e h
    refine fw_xretv (vx_runS (As := [.int x1]) (rest := []) ⟨hx, hb, hml, hown, hU⟩ (k_X9_requireMachine l hst hE x1 hc1) (va_cwS 1 hU (fw_gS m_741 m_742 m_1 m_743) rfl rfl rfl (by decide +kernel) ⟨(Nat.le_of_ble_eq_true rfl), (Nat.le_of_ble_eq_true rfl)⟩) ⟨fw_blind, fun U hU9 hW9 => ⟨rfl, fw_pre hK hP hSt hS U hU9 hW9⟩⟩ rfl rfl hl.1 rfl (lv_room (Nat.le_of_ble_eq_true rfl)) dX9_damage_1 ⟨(Nat.le_of_ble_eq_true rfl), (Nat.le_of_ble_eq_true rfl)⟩) hS (fun hk1 H locs hP hS => ?_) (fun hk1 H locs q ce hP hS hce hcv hcl => ?_)
    · rw [if_pos hk1] at h
      refine lv_aload_n hx hb dX9_damage_4 rfl (lv_at hl 0 rfl) ?_
      refine lv_iload_n hx hb dX9_damage_5 rfl (lv_at hl 1 rfl) ?_
      obtain ⟨μ2, r2, hc2, h⟩ := fw_b2_e h
      refine fw_ret (va_runV (As := [.int x1]) (rest := []) ⟨hx, hb, hml, hown, hU⟩ (k_X9_damageOfTrial l hE x1 hc2) (cwV 1 hU (fw_gV m_278 m_280 ms_1 m_1 m_281) rfl rfl rfl (by decide +kernel) ⟨(Nat.le_of_ble_eq_true rfl), (Nat.le_of_ble_eq_true rfl)⟩) ⟨fw_blind, fw_recv hK hP (fw_V0 (f := 10) (by decide) (by decide)) rfl rfl, fun U hU9 hW9 => ⟨rfl, fw_pre hK hP hSt hS U hU9 hW9⟩⟩ rfl rfl hl.1 rfl (lv_room (Nat.le_of_ble_eq_true rfl)) dX9_damage_6 ⟨(Nat.le_of_ble_eq_true rfl), (Nat.le_of_ble_eq_true rfl)⟩) hS (fun H locs hP hS => ?_)
      refine W.widen (k := 1) (n := 6) (Nat.le_of_ble_eq_true rfl) (Nat.le_of_ble_eq_true rfl) (vx_ret ?_)
      exact W.iret (v := r2) hx hb hr (fw_xw (mk := Value.int) h hP hS) hS.2.2 dX9_damage_9
    · rw [if_neg hk1] at h
      exact vx_out (fun z hz => (hex z hz).elim) hlocks hce hcv hcl (fw_xo h hk1 hP hS) hS.2.2 (Nat.le_of_ble_eq_true rfl) (Nat.le_of_ble_eq_true rfl)
  subst ha
  have hl := lv_entry ([.ref (fw_ad E 0 10), .int x1]) (n := 2) (Nat.le_of_ble_eq_true rfl)
  rw [lg_entry_eq]
  generalize (lg_sl ([.ref (fw_ad E 0 10), .int x1]) ++ List.replicate (2 - (lg_sl ([.ref (fw_ad E 0 10), .int x1])).length) Slot.unset).toArray = ls at hl ⊢
  exact EN s.heap [] ls hP va_S.rf hl
set_option maxHeartbeats 4000000 in
set_option maxRecDepth 100000 in
theorem k_X9_damageByMasks (l : Launch) (hst : l.stackTraces = false) {E : fw_E} {o : Int64} {d : UInt64} (hE : fw_ok E) {μ μ' : fw_M} (x1 : Int32) {r : Int32} {k : Nat} (h : f_X9_damageByMasks μ x1 = some (μ', r, k)) : vx_Met l yX9_damageByMasks (fw_ws yX9_damageByMasks cX9_damageByMasks 2 (some .int)) ({ frames := 7, cells := 1, slots := 6, locals := 110 } : Room) (va_Pc [.ref (fw_ad E 0 10), .int x1] (fw_Pre E o d μ)) (fw_QR E o d k (some (.int r)) μ') (fw_XC E o d k μ') 1 6 (fw_A E) := by
  refine vx_ofW (cc := cX9_damageByMasks) (maxL := 2) (ret := (some .int)) (by decide) rfl ?_
  intro p e s m args below meth c s₁ B hml hex hv
  obtain ⟨ha, hK, hP, hSt⟩ := hv
  have hx := B.exec
  have hb := B.bytes
  have hr := B.returns
  have hts := atoms_spec (ws := fw_ws yX9_damageByMasks cX9_damageByMasks 2 (some .int)) B.pre
  have hU : ∀ w ∈ fw_U, w.before args s = true := fun w hw => hts w (List.mem_cons_of_mem _ hw)
  have hown : s.vm.findClass RX9 = some m.cls := findClass_of_methodNamed B.named
  have hlocks := B.notSynchronized
  have EN : ∀ (H : Heap) (locs : List Loc) (ls : Array Slot), fw_P E o d μ H → va_S (fw_A E) s.heap H locs → lv_has ls 2 [(0, .ref (fw_ad E 0 10)), (1, .int x1)] → W p l e (headSpec (fw_ws yX9_damageByMasks cX9_damageByMasks 2 (some .int)) ({ frames := 7, cells := 1, slots := 6, locals := 110 } : Room)).room s m args below meth c H locs 0 0 (vx_MQ below (fw_QR E o d k (some (.int r)) μ') (fw_XC E o d k μ') args s 1 6 (fw_A E)) (F0 m 0 ls []) := by
    intro H locs ls hP hS hl
    unfold f_X9_damageByMasks at h
    refine lv_iload_n hx hb dX9_damageByMasks_0 rfl (lv_at hl 1 rfl) ?_
    obtain ⟨μ1, r1, k1, hc1, h⟩ := fw_b3_e h
    refine fw_xretv (vx_runS (As := [.int x1]) (rest := []) ⟨hx, hb, hml, hown, hU⟩ (k_X9_requireMachine l hst hE x1 hc1) (va_cwS 1 hU (fw_gS m_741 m_742 m_1 m_743) rfl rfl rfl (by decide +kernel) ⟨(Nat.le_of_ble_eq_true rfl), (Nat.le_of_ble_eq_true rfl)⟩) ⟨fw_blind, fun U hU9 hW9 => ⟨rfl, fw_pre hK hP hSt hS U hU9 hW9⟩⟩ rfl rfl hl.1 rfl (lv_room (Nat.le_of_ble_eq_true rfl)) dX9_damageByMasks_1 ⟨(Nat.le_of_ble_eq_true rfl), (Nat.le_of_ble_eq_true rfl)⟩) hS (fun hk1 H locs hP hS => ?_) (fun hk1 H locs q ce hP hS hce hcv hcl => ?_)
    · rw [if_pos hk1] at h
      refine lv_aload_n hx hb dX9_damageByMasks_4 rfl (lv_at hl 0 rfl) ?_
      refine va_get (D := fw_D E) (ci := 7) (v := .ref (fw_ad E 0 0)) (C := RX9) (T := TX9) (N := 9) hx hb hU inU9 hown hK (fw_at hP (fw_V0 (f := 10) (by decide) (by decide))) 0 rfl rfl 0 (by decide) (hU (Cond.fieldLink RX9 12 "LaundryService" "state" "LLaundryService$State;") m_193) (fun _ h9 => h9) rfl dX9_damageByMasks_5 ?_
      refine lv_iload_n hx hb dX9_damageByMasks_8 rfl (lv_at hl 1 rfl) ?_
      refine lv_aload_n hx hb dX9_damageByMasks_9 rfl (lv_at hl 0 rfl) ?_
      refine va_get (D := fw_D E) (ci := 7) (v := .ref (fw_ad E 0 0)) (C := RX9) (T := TX9) (N := 9) hx hb hU inU9 hown hK (fw_at hP (fw_V0 (f := 10) (by decide) (by decide))) 0 rfl rfl 0 (by decide) (hU (Cond.fieldLink RX9 12 "LaundryService" "state" "LLaundryService$State;") m_193) (fun _ h9 => h9) rfl dX9_damageByMasks_10 ?_
      refine va_get (D := fw_D E) (ci := 6) (v := .ref (fw_ad E 0 7)) (C := RX7) (T := TX7) (N := 10) hx hb hU inU7 hown hK (fw_at hP (fw_Vs (f := 0) (by decide) (by decide))) 0 rfl rfl 7 (by decide) (hU (Cond.fieldLink RX9 96 "LaundryService$State" "halves" "[I") m_71) (fun _ h9 => h9) rfl dX9_damageByMasks_13 ?_
      refine lv_iload_n hx hb dX9_damageByMasks_16 rfl (lv_at hl 1 rfl) ?_
      obtain ⟨g2, h⟩ := fw_g_e h
      refine va_iald (D := fw_D E) hx hb hK (fw_at hP (fw_Vs (f := 7) (by decide) (by decide))) 0 0 rfl rfl (fw_in_e g2) dX9_damageByMasks_17 ?_
      obtain ⟨r3, hc3, h⟩ := fw_b1_e h
      refine fw_ret (va_runS (As := [.ref (fw_ad E 0 0), .int x1, .int (μ1 0 7 x1.toNatClampNeg)]) (rest := []) ⟨hx, hb, hml, hown, hU⟩ (k_X8_damageFromSets l hE (by decide) x1 (μ1 0 7 x1.toNatClampNeg) hc3) (va_cwS 3 hU (fw_gS m_245 m_246 m_23 m_247) rfl rfl rfl (by decide +kernel) ⟨(Nat.le_of_ble_eq_true rfl), (Nat.le_of_ble_eq_true rfl)⟩) ⟨fw_blind, fun U hU9 hW9 => ⟨rfl, fw_pre hK hP hSt hS U hU9 hW9⟩⟩ rfl rfl hl.1 rfl (lv_room (Nat.le_of_ble_eq_true rfl)) dX9_damageByMasks_18 ⟨(Nat.le_of_ble_eq_true rfl), (Nat.le_of_ble_eq_true rfl)⟩) hS (fun H locs hP hS => ?_)
      refine W.widen (k := 1) (n := 6) (Nat.le_of_ble_eq_true rfl) (Nat.le_of_ble_eq_true rfl) (vx_ret ?_)
      exact W.iret (v := r3) hx hb hr (fw_xw (mk := Value.int) h hP hS) hS.2.2 dX9_damageByMasks_21
    · rw [if_neg hk1] at h
      exact vx_out (fun z hz => (hex z hz).elim) hlocks hce hcv hcl (fw_xo h hk1 hP hS) hS.2.2 (Nat.le_of_ble_eq_true rfl) (Nat.le_of_ble_eq_true rfl)
  subst ha
  have hl := lv_entry ([.ref (fw_ad E 0 10), .int x1]) (n := 2) (Nat.le_of_ble_eq_true rfl)
  rw [lg_entry_eq]
  generalize (lg_sl ([.ref (fw_ad E 0 10), .int x1]) ++ List.replicate (2 - (lg_sl ([.ref (fw_ad E 0 10), .int x1])).length) Slot.unset).toArray = ls at hl ⊢
  exact EN s.heap [] ls hP va_S.rf hl
set_option maxHeartbeats 4000000 in
set_option maxRecDepth 100000 in
theorem k_X9_bestTemperature (l : Launch) (hst : l.stackTraces = false) {E : fw_E} {o : Int64} {d : UInt64} (hE : fw_ok E) {μ μ' : fw_M} (x1 : Int32) {r : Int32} {k : Nat} (h : f_X9_bestTemperature μ x1 = some (μ', r, k)) : vx_Met l yX9_bestTemperature (fw_ws yX9_bestTemperature cX9_bestTemperature 2 (some .int)) ({ frames := 7, cells := 2, slots := 12, locals := 110 } : Room) (va_Pc [.ref (fw_ad E 0 10), .int x1] (fw_Pre E o d μ)) (fw_QR E o d k (some (.int r)) μ') (fw_XC E o d k μ') 2 12 (fw_A E) := by
  refine vx_ofW (cc := cX9_bestTemperature) (maxL := 2) (ret := (some .int)) (by decide) rfl ?_
  intro p e s m args below meth c s₁ B hml hex hv
  obtain ⟨ha, hK, hP, hSt⟩ := hv
  have hx := B.exec
  have hb := B.bytes
  have hr := B.returns
  have hts := atoms_spec (ws := fw_ws yX9_bestTemperature cX9_bestTemperature 2 (some .int)) B.pre
  have hU : ∀ w ∈ fw_U, w.before args s = true := fun w hw => hts w (List.mem_cons_of_mem _ hw)
  have hown : s.vm.findClass RX9 = some m.cls := findClass_of_methodNamed B.named
  have hlocks := B.notSynchronized
  have EN : ∀ (H : Heap) (locs : List Loc) (ls : Array Slot), fw_P E o d μ H → va_S (fw_A E) s.heap H locs → lv_has ls 2 [(0, .ref (fw_ad E 0 10)), (1, .int x1)] → W p l e (headSpec (fw_ws yX9_bestTemperature cX9_bestTemperature 2 (some .int)) ({ frames := 7, cells := 2, slots := 12, locals := 110 } : Room)).room s m args below meth c H locs 0 0 (vx_MQ below (fw_QR E o d k (some (.int r)) μ') (fw_XC E o d k μ') args s 2 12 (fw_A E)) (F0 m 0 ls []) := by
    intro H locs ls hP hS hl
    unfold f_X9_bestTemperature at h
    refine lv_iload_n hx hb dX9_bestTemperature_0 rfl (lv_at hl 1 rfl) ?_
    obtain ⟨μ1, r1, k1, hc1, h⟩ := fw_b3_e h
    refine fw_xretv (vx_runS (As := [.int x1]) (rest := []) ⟨hx, hb, hml, hown, hU⟩ (k_X9_requireMachine l hst hE x1 hc1) (va_cwS 1 hU (fw_gS m_741 m_742 m_1 m_743) rfl rfl rfl (by decide +kernel) ⟨(Nat.le_of_ble_eq_true rfl), (Nat.le_of_ble_eq_true rfl)⟩) ⟨fw_blind, fun U hU9 hW9 => ⟨rfl, fw_pre hK hP hSt hS U hU9 hW9⟩⟩ rfl rfl hl.1 rfl (lv_room (Nat.le_of_ble_eq_true rfl)) dX9_bestTemperature_1 ⟨(Nat.le_of_ble_eq_true rfl), (Nat.le_of_ble_eq_true rfl)⟩) hS (fun hk1 H locs hP hS => ?_) (fun hk1 H locs q ce hP hS hce hcv hcl => ?_)
    · rw [if_pos hk1] at h
      refine lv_aload_n hx hb dX9_bestTemperature_4 rfl (lv_at hl 0 rfl) ?_
      refine va_get (D := fw_D E) (ci := 7) (v := .ref (fw_ad E 0 0)) (C := RX9) (T := TX9) (N := 9) hx hb hU inU9 hown hK (fw_at hP (fw_V0 (f := 10) (by decide) (by decide))) 0 rfl rfl 0 (by decide) (hU (Cond.fieldLink RX9 12 "LaundryService" "state" "LLaundryService$State;") m_193) (fun _ h9 => h9) rfl dX9_bestTemperature_5 ?_
      refine lv_iload_n hx hb dX9_bestTemperature_8 rfl (lv_at hl 1 rfl) ?_
      obtain ⟨r2, hc2, h⟩ := fw_b1_e h
      refine fw_ret (va_runV (As := [.int x1]) (rest := []) ⟨hx, hb, hml, hown, hU⟩ (k_X7_countIn l hE (by decide) x1 hc2) (cwV 1 hU (fw_gV m_305 m_263 m_264 m_2 m_265) rfl rfl rfl (by decide +kernel) ⟨(Nat.le_of_ble_eq_true rfl), (Nat.le_of_ble_eq_true rfl)⟩) ⟨fw_blind, fw_recv hK hP (fw_Vs (f := 0) (by decide) (by decide)) rfl rfl, fun U hU9 hW9 => ⟨rfl, fw_pre hK hP hSt hS U hU9 hW9⟩⟩ rfl rfl hl.1 rfl (lv_room (Nat.le_of_ble_eq_true rfl)) dX9_bestTemperature_9 ⟨(Nat.le_of_ble_eq_true rfl), (Nat.le_of_ble_eq_true rfl)⟩) hS (fun H locs hP hS => ?_)
      refine lv_if_ne (tgt := 25) hx hb dX9_bestTemperature_12 (by decide) (fun c3 => ?_) (fun c3 => ?_)
      · rw [if_neg c3] at h
        refine lv_aload_n hx hb dX9_bestTemperature_25 rfl (lv_at hl 0 rfl) ?_
        refine va_get (D := fw_D E) (ci := 7) (v := .ref (fw_ad E 0 0)) (C := RX9) (T := TX9) (N := 9) hx hb hU inU9 hown hK (fw_at hP (fw_V0 (f := 10) (by decide) (by decide))) 0 rfl rfl 0 (by decide) (hU (Cond.fieldLink RX9 12 "LaundryService" "state" "LLaundryService$State;") m_193) (fun _ h9 => h9) rfl dX9_bestTemperature_26 ?_
        refine lv_iload_n hx hb dX9_bestTemperature_29 rfl (lv_at hl 1 rfl) ?_
        obtain ⟨r4, hc4, h⟩ := fw_b1_e h
        refine fw_ret (va_runS (As := [.ref (fw_ad E 0 0), .int x1]) (rest := []) ⟨hx, hb, hml, hown, hU⟩ (k_X8_leastHarmfulHalves l hE (by decide) x1 hc4) (va_cwS 2 hU (fw_gS m_816 m_817 m_23 m_818) rfl rfl rfl (by decide +kernel) ⟨(Nat.le_of_ble_eq_true rfl), (Nat.le_of_ble_eq_true rfl)⟩) ⟨fw_blind, fun U hU9 hW9 => ⟨rfl, fw_pre hK hP hSt hS U hU9 hW9⟩⟩ rfl rfl hl.1 rfl (lv_room (Nat.le_of_ble_eq_true rfl)) dX9_bestTemperature_30 ⟨(Nat.le_of_ble_eq_true rfl), (Nat.le_of_ble_eq_true rfl)⟩) hS (fun H locs hP hS => ?_)
        refine W.widen (k := 2) (n := 12) (Nat.le_of_ble_eq_true rfl) (Nat.le_of_ble_eq_true rfl) (vx_ret ?_)
        exact W.iret (v := r4) hx hb hr (fw_xw (mk := Value.int) h hP hS) hS.2.2 dX9_bestTemperature_33
      · rw [if_pos c3] at h
        exact fw_throw hx hb hst hown hU hSt hP hS (m_492) (m_19) (List.mem_of_getElem? (i := 2) rfl) thr_205 (hl.1.trans hml.symm) dX9_bestTemperature_15 dX9_bestTemperature_18 dX9_bestTemperature_19 dX9_bestTemperature_21 dX9_bestTemperature_24 hex (Nat.le_of_ble_eq_true rfl) (Nat.le_of_ble_eq_true rfl) (Nat.le_of_ble_eq_true rfl) (Nat.le_of_ble_eq_true rfl) hlocks h (by decide) rfl (Nat.le_of_ble_eq_true rfl) (Nat.le_of_ble_eq_true rfl)
    · rw [if_neg hk1] at h
      exact vx_out (fun z hz => (hex z hz).elim) hlocks hce hcv hcl (fw_xo h hk1 hP hS) hS.2.2 (Nat.le_of_ble_eq_true rfl) (Nat.le_of_ble_eq_true rfl)
  subst ha
  have hl := lv_entry ([.ref (fw_ad E 0 10), .int x1]) (n := 2) (Nat.le_of_ble_eq_true rfl)
  rw [lg_entry_eq]
  generalize (lg_sl ([.ref (fw_ad E 0 10), .int x1]) ++ List.replicate (2 - (lg_sl ([.ref (fw_ad E 0 10), .int x1])).length) Slot.unset).toArray = ls at hl ⊢
  exact EN s.heap [] ls hP va_S.rf hl
set_option maxHeartbeats 4000000 in
set_option maxRecDepth 100000 in
theorem k_X9_price (l : Launch) (hst : l.stackTraces = false) {E : fw_E} {o : Int64} {d : UInt64} (hE : fw_ok E) {μ μ' : fw_M} (x1 : Int32) (x2 : Int32) {r : UInt32} {k : Nat} (h : f_X9_price μ x1 x2 = some (μ', r, k)) : vx_Met l yX9_price (fw_ws yX9_price cX9_price 3 (some .float)) ({ frames := 7, cells := 2, slots := 12, locals := 110 } : Room) (va_Pc [.ref (fw_ad E 0 10), .int x1, .int x2] (fw_Pre E o d μ)) (fw_QR E o d k (some (.float r)) μ') (fw_XC E o d k μ') 2 12 (fw_A E) := by
  refine vx_ofW (cc := cX9_price) (maxL := 3) (ret := (some .float)) (by decide) rfl ?_
  intro p e s m args below meth c s₁ B hml hex hv
  obtain ⟨ha, hK, hP, hSt⟩ := hv
  have hx := B.exec
  have hb := B.bytes
  have hr := B.returns
  have hts := atoms_spec (ws := fw_ws yX9_price cX9_price 3 (some .float)) B.pre
  have hU : ∀ w ∈ fw_U, w.before args s = true := fun w hw => hts w (List.mem_cons_of_mem _ hw)
  have hown : s.vm.findClass RX9 = some m.cls := findClass_of_methodNamed B.named
  have hlocks := B.notSynchronized
  have EN : ∀ (H : Heap) (locs : List Loc) (ls : Array Slot), fw_P E o d μ H → va_S (fw_A E) s.heap H locs → lv_has ls 3 [(0, .ref (fw_ad E 0 10)), (1, .int x1), (2, .int x2)] → W p l e (headSpec (fw_ws yX9_price cX9_price 3 (some .float)) ({ frames := 7, cells := 2, slots := 12, locals := 110 } : Room)).room s m args below meth c H locs 0 0 (vx_MQ below (fw_QR E o d k (some (.float r)) μ') (fw_XC E o d k μ') args s 2 12 (fw_A E)) (F0 m 0 ls []) := by
    intro H locs ls hP hS hl
    unfold f_X9_price at h
    refine lv_iload_n hx hb dX9_price_0 rfl (lv_at hl 1 rfl) ?_
    obtain ⟨μ1, r1, k1, hc1, h⟩ := fw_b3_e h
    refine fw_xretv (vx_runS (As := [.int x1]) (rest := []) ⟨hx, hb, hml, hown, hU⟩ (k_X9_requireMachine l hst hE x1 hc1) (va_cwS 1 hU (fw_gS m_741 m_742 m_1 m_743) rfl rfl rfl (by decide +kernel) ⟨(Nat.le_of_ble_eq_true rfl), (Nat.le_of_ble_eq_true rfl)⟩) ⟨fw_blind, fun U hU9 hW9 => ⟨rfl, fw_pre hK hP hSt hS U hU9 hW9⟩⟩ rfl rfl hl.1 rfl (lv_room (Nat.le_of_ble_eq_true rfl)) dX9_price_1 ⟨(Nat.le_of_ble_eq_true rfl), (Nat.le_of_ble_eq_true rfl)⟩) hS (fun hk1 H locs hP hS => ?_) (fun hk1 H locs q ce hP hS hce hcv hcl => ?_)
    · rw [if_pos hk1] at h
      refine lv_iload_n hx hb dX9_price_4 rfl (lv_at hl 2 rfl) ?_
      obtain ⟨μ2, r2, k2, hc2, h⟩ := fw_b3_e h
      refine fw_xretv (vx_runS (As := [.int x2]) (rest := []) ⟨hx, hb, hml, hown, hU⟩ (k_X9_requireClient l hst hE x2 hc2) (va_cwS 1 hU (fw_gS m_710 m_711 m_1 m_712) rfl rfl rfl (by decide +kernel) ⟨(Nat.le_of_ble_eq_true rfl), (Nat.le_of_ble_eq_true rfl)⟩) ⟨fw_blind, fun U hU9 hW9 => ⟨rfl, fw_pre hK hP hSt hS U hU9 hW9⟩⟩ rfl rfl hl.1 rfl (lv_room (Nat.le_of_ble_eq_true rfl)) dX9_price_5 ⟨(Nat.le_of_ble_eq_true rfl), (Nat.le_of_ble_eq_true rfl)⟩) hS (fun hk2 H locs hP hS => ?_) (fun hk2 H locs q ce hP hS hce hcv hcl => ?_)
      · rw [if_pos hk2] at h
        refine lv_aload_n hx hb dX9_price_8 rfl (lv_at hl 0 rfl) ?_
        refine va_get (D := fw_D E) (ci := 7) (v := .ref (fw_ad E 0 0)) (C := RX9) (T := TX9) (N := 9) hx hb hU inU9 hown hK (fw_at hP (fw_V0 (f := 10) (by decide) (by decide))) 0 rfl rfl 0 (by decide) (hU (Cond.fieldLink RX9 12 "LaundryService" "state" "LLaundryService$State;") m_193) (fun _ h9 => h9) rfl dX9_price_9 ?_
        refine lv_iload_n hx hb dX9_price_12 rfl (lv_at hl 1 rfl) ?_
        refine lv_iload_n hx hb dX9_price_13 rfl (lv_at hl 2 rfl) ?_
        obtain ⟨r3, hc3, h⟩ := fw_b1_e h
        refine fw_ret (va_runV (As := [.int x1, .int x2]) (rest := []) ⟨hx, hb, hml, hown, hU⟩ (k_X7_costOfRun l hE (by decide) x1 x2 hc3) (cwV 2 hU (fw_gV m_827 m_606 m_607 m_2 m_608) rfl rfl rfl (by decide +kernel) ⟨(Nat.le_of_ble_eq_true rfl), (Nat.le_of_ble_eq_true rfl)⟩) ⟨fw_blind, fw_recv hK hP (fw_Vs (f := 0) (by decide) (by decide)) rfl rfl, fun U hU9 hW9 => ⟨rfl, fw_pre hK hP hSt hS U hU9 hW9⟩⟩ rfl rfl hl.1 rfl (lv_room (Nat.le_of_ble_eq_true rfl)) dX9_price_14 ⟨(Nat.le_of_ble_eq_true rfl), (Nat.le_of_ble_eq_true rfl)⟩) hS (fun H locs hP hS => ?_)
        refine W.widen (k := 2) (n := 12) (Nat.le_of_ble_eq_true rfl) (Nat.le_of_ble_eq_true rfl) (vx_ret ?_)
        exact W.fret (v := r3) hx hb hr (fw_xw (mk := Value.float) h hP hS) hS.2.2 dX9_price_17
      · rw [if_neg hk2] at h
        exact vx_out (fun z hz => (hex z hz).elim) hlocks hce hcv hcl (fw_xo h hk2 hP hS) hS.2.2 (Nat.le_of_ble_eq_true rfl) (Nat.le_of_ble_eq_true rfl)
    · rw [if_neg hk1] at h
      exact vx_out (fun z hz => (hex z hz).elim) hlocks hce hcv hcl (fw_xo h hk1 hP hS) hS.2.2 (Nat.le_of_ble_eq_true rfl) (Nat.le_of_ble_eq_true rfl)
  subst ha
  have hl := lv_entry ([.ref (fw_ad E 0 10), .int x1, .int x2]) (n := 3) (Nat.le_of_ble_eq_true rfl)
  rw [lg_entry_eq]
  generalize (lg_sl ([.ref (fw_ad E 0 10), .int x1, .int x2]) ++ List.replicate (3 - (lg_sl ([.ref (fw_ad E 0 10), .int x1, .int x2])).length) Slot.unset).toArray = ls at hl ⊢
  exact EN s.heap [] ls hP va_S.rf hl
set_option maxHeartbeats 4000000 in
set_option maxRecDepth 100000 in
theorem k_X9_paid (l : Launch) (hst : l.stackTraces = false) {E : fw_E} {o : Int64} {d : UInt64} (hE : fw_ok E) {μ μ' : fw_M} (x1 : Int32) {r : UInt32} {k : Nat} (h : f_X9_paid μ x1 = some (μ', r, k)) : vx_Met l yX9_paid (fw_ws yX9_paid cX9_paid 2 (some .float)) ({ frames := 7, cells := 1, slots := 6, locals := 110 } : Room) (va_Pc [.ref (fw_ad E 0 10), .int x1] (fw_Pre E o d μ)) (fw_QR E o d k (some (.float r)) μ') (fw_XC E o d k μ') 1 6 (fw_A E) := by
  refine vx_ofW (cc := cX9_paid) (maxL := 2) (ret := (some .float)) (by decide) rfl ?_
  intro p e s m args below meth c s₁ B hml hex hv
  obtain ⟨ha, hK, hP, hSt⟩ := hv
  have hx := B.exec
  have hb := B.bytes
  have hr := B.returns
  have hts := atoms_spec (ws := fw_ws yX9_paid cX9_paid 2 (some .float)) B.pre
  have hU : ∀ w ∈ fw_U, w.before args s = true := fun w hw => hts w (List.mem_cons_of_mem _ hw)
  have hown : s.vm.findClass RX9 = some m.cls := findClass_of_methodNamed B.named
  have hlocks := B.notSynchronized
  have EN : ∀ (H : Heap) (locs : List Loc) (ls : Array Slot), fw_P E o d μ H → va_S (fw_A E) s.heap H locs → lv_has ls 2 [(0, .ref (fw_ad E 0 10)), (1, .int x1)] → W p l e (headSpec (fw_ws yX9_paid cX9_paid 2 (some .float)) ({ frames := 7, cells := 1, slots := 6, locals := 110 } : Room)).room s m args below meth c H locs 0 0 (vx_MQ below (fw_QR E o d k (some (.float r)) μ') (fw_XC E o d k μ') args s 1 6 (fw_A E)) (F0 m 0 ls []) := by
    intro H locs ls hP hS hl
    unfold f_X9_paid at h
    refine lv_iload_n hx hb dX9_paid_0 rfl (lv_at hl 1 rfl) ?_
    obtain ⟨μ1, r1, k1, hc1, h⟩ := fw_b3_e h
    refine fw_xretv (vx_runS (As := [.int x1]) (rest := []) ⟨hx, hb, hml, hown, hU⟩ (k_X9_requireClient l hst hE x1 hc1) (va_cwS 1 hU (fw_gS m_710 m_711 m_1 m_712) rfl rfl rfl (by decide +kernel) ⟨(Nat.le_of_ble_eq_true rfl), (Nat.le_of_ble_eq_true rfl)⟩) ⟨fw_blind, fun U hU9 hW9 => ⟨rfl, fw_pre hK hP hSt hS U hU9 hW9⟩⟩ rfl rfl hl.1 rfl (lv_room (Nat.le_of_ble_eq_true rfl)) dX9_paid_1 ⟨(Nat.le_of_ble_eq_true rfl), (Nat.le_of_ble_eq_true rfl)⟩) hS (fun hk1 H locs hP hS => ?_) (fun hk1 H locs q ce hP hS hce hcv hcl => ?_)
    · rw [if_pos hk1] at h
      refine lv_aload_n hx hb dX9_paid_4 rfl (lv_at hl 0 rfl) ?_
      refine va_get (D := fw_D E) (ci := 7) (v := .ref (fw_ad E 0 0)) (C := RX9) (T := TX9) (N := 9) hx hb hU inU9 hown hK (fw_at hP (fw_V0 (f := 10) (by decide) (by decide))) 0 rfl rfl 0 (by decide) (hU (Cond.fieldLink RX9 12 "LaundryService" "state" "LLaundryService$State;") m_193) (fun _ h9 => h9) rfl dX9_paid_5 ?_
      refine va_get (D := fw_D E) (ci := 6) (v := .ref (fw_ad E 0 8)) (C := RX7) (T := TX7) (N := 10) hx hb hU inU7 hown hK (fw_at hP (fw_Vs (f := 0) (by decide) (by decide))) 0 rfl rfl 8 (by decide) (hU (Cond.fieldLink RX9 213 "LaundryService$State" "paid" "[F") m_73) (fun _ h9 => h9) rfl dX9_paid_8 ?_
      refine lv_iload_n hx hb dX9_paid_11 rfl (lv_at hl 1 rfl) ?_
      obtain ⟨g2, h⟩ := fw_g_e h
      refine va_fald (D := fw_D E) hx hb hK (fw_at hP (fw_Vs (f := 8) (by decide) (by decide))) 0 3 rfl rfl (fw_in_e g2) dX9_paid_12 ?_
      refine W.widen (k := 1) (n := 6) (Nat.le_of_ble_eq_true rfl) (Nat.le_of_ble_eq_true rfl) (vx_ret ?_)
      exact W.fret (v := (μ1 0 8 x1.toNatClampNeg).toUInt32) hx hb hr (fw_xw (mk := Value.float) h hP hS) hS.2.2 dX9_paid_13
    · rw [if_neg hk1] at h
      exact vx_out (fun z hz => (hex z hz).elim) hlocks hce hcv hcl (fw_xo h hk1 hP hS) hS.2.2 (Nat.le_of_ble_eq_true rfl) (Nat.le_of_ble_eq_true rfl)
  subst ha
  have hl := lv_entry ([.ref (fw_ad E 0 10), .int x1]) (n := 2) (Nat.le_of_ble_eq_true rfl)
  rw [lg_entry_eq]
  generalize (lg_sl ([.ref (fw_ad E 0 10), .int x1]) ++ List.replicate (2 - (lg_sl ([.ref (fw_ad E 0 10), .int x1])).length) Slot.unset).toArray = ls at hl ⊢
  exact EN s.heap [] ls hP va_S.rf hl
set_option maxHeartbeats 4000000 in
set_option maxRecDepth 100000 in
theorem k_X9_paidBits (l : Launch) (hst : l.stackTraces = false) {E : fw_E} {o : Int64} {d : UInt64} (hE : fw_ok E) {μ μ' : fw_M} (x1 : Int32) {r : Int32} {k : Nat} (h : f_X9_paidBits μ x1 = some (μ', r, k)) : vx_Met l yX9_paidBits (fw_ws yX9_paidBits cX9_paidBits 2 (some .int)) ({ frames := 7, cells := 1, slots := 6, locals := 110 } : Room) (va_Pc [.ref (fw_ad E 0 10), .int x1] (fw_Pre E o d μ)) (fw_QR E o d k (some (.int r)) μ') (fw_XC E o d k μ') 1 6 (fw_A E) := by
  refine vx_ofW (cc := cX9_paidBits) (maxL := 2) (ret := (some .int)) (by decide) rfl ?_
  intro p e s m args below meth c s₁ B hml hex hv
  obtain ⟨ha, hK, hP, hSt⟩ := hv
  have hx := B.exec
  have hb := B.bytes
  have hr := B.returns
  have hts := atoms_spec (ws := fw_ws yX9_paidBits cX9_paidBits 2 (some .int)) B.pre
  have hU : ∀ w ∈ fw_U, w.before args s = true := fun w hw => hts w (List.mem_cons_of_mem _ hw)
  have hown : s.vm.findClass RX9 = some m.cls := findClass_of_methodNamed B.named
  have hlocks := B.notSynchronized
  have EN : ∀ (H : Heap) (locs : List Loc) (ls : Array Slot), fw_P E o d μ H → va_S (fw_A E) s.heap H locs → lv_has ls 2 [(0, .ref (fw_ad E 0 10)), (1, .int x1)] → W p l e (headSpec (fw_ws yX9_paidBits cX9_paidBits 2 (some .int)) ({ frames := 7, cells := 1, slots := 6, locals := 110 } : Room)).room s m args below meth c H locs 0 0 (vx_MQ below (fw_QR E o d k (some (.int r)) μ') (fw_XC E o d k μ') args s 1 6 (fw_A E)) (F0 m 0 ls []) := by
    intro H locs ls hP hS hl
    unfold f_X9_paidBits at h
    refine lv_iload_n hx hb dX9_paidBits_0 rfl (lv_at hl 1 rfl) ?_
    obtain ⟨μ1, r1, k1, hc1, h⟩ := fw_b3_e h
    refine fw_xretv (vx_runS (As := [.int x1]) (rest := []) ⟨hx, hb, hml, hown, hU⟩ (k_X9_requireClient l hst hE x1 hc1) (va_cwS 1 hU (fw_gS m_710 m_711 m_1 m_712) rfl rfl rfl (by decide +kernel) ⟨(Nat.le_of_ble_eq_true rfl), (Nat.le_of_ble_eq_true rfl)⟩) ⟨fw_blind, fun U hU9 hW9 => ⟨rfl, fw_pre hK hP hSt hS U hU9 hW9⟩⟩ rfl rfl hl.1 rfl (lv_room (Nat.le_of_ble_eq_true rfl)) dX9_paidBits_1 ⟨(Nat.le_of_ble_eq_true rfl), (Nat.le_of_ble_eq_true rfl)⟩) hS (fun hk1 H locs hP hS => ?_) (fun hk1 H locs q ce hP hS hce hcv hcl => ?_)
    · rw [if_pos hk1] at h
      refine lv_aload_n hx hb dX9_paidBits_4 rfl (lv_at hl 0 rfl) ?_
      refine va_get (D := fw_D E) (ci := 7) (v := .ref (fw_ad E 0 0)) (C := RX9) (T := TX9) (N := 9) hx hb hU inU9 hown hK (fw_at hP (fw_V0 (f := 10) (by decide) (by decide))) 0 rfl rfl 0 (by decide) (hU (Cond.fieldLink RX9 12 "LaundryService" "state" "LLaundryService$State;") m_193) (fun _ h9 => h9) rfl dX9_paidBits_5 ?_
      refine va_get (D := fw_D E) (ci := 6) (v := .ref (fw_ad E 0 8)) (C := RX7) (T := TX7) (N := 10) hx hb hU inU7 hown hK (fw_at hP (fw_Vs (f := 0) (by decide) (by decide))) 0 rfl rfl 8 (by decide) (hU (Cond.fieldLink RX9 213 "LaundryService$State" "paid" "[F") m_73) (fun _ h9 => h9) rfl dX9_paidBits_8 ?_
      refine lv_iload_n hx hb dX9_paidBits_11 rfl (lv_at hl 1 rfl) ?_
      obtain ⟨g2, h⟩ := fw_g_e h
      refine va_fald (D := fw_D E) hx hb hK (fw_at hP (fw_Vs (f := 8) (by decide) (by decide))) 0 3 rfl rfl (fw_in_e g2) dX9_paidBits_12 ?_
      obtain ⟨r3, hc3, h⟩ := fw_b1_e h
      refine fw_ret (va_runS (As := [.float (μ1 0 8 x1.toNatClampNeg).toUInt32]) (rest := []) ⟨hx, hb, hml, hown, hU⟩ (k_X9_bitsOf l hE ((μ1 0 8 x1.toNatClampNeg).toUInt32) hc3) (va_cwS 1 hU (fw_gS m_760 m_761 m_1 m_762) rfl rfl rfl (by decide +kernel) ⟨(Nat.le_of_ble_eq_true rfl), (Nat.le_of_ble_eq_true rfl)⟩) ⟨fw_blind, fun U hU9 hW9 => ⟨rfl, fw_pre hK hP hSt hS U hU9 hW9⟩⟩ rfl rfl hl.1 rfl (lv_room (Nat.le_of_ble_eq_true rfl)) dX9_paidBits_13 ⟨(Nat.le_of_ble_eq_true rfl), (Nat.le_of_ble_eq_true rfl)⟩) hS (fun H locs hP hS => ?_)
      refine W.widen (k := 1) (n := 6) (Nat.le_of_ble_eq_true rfl) (Nat.le_of_ble_eq_true rfl) (vx_ret ?_)
      exact W.iret (v := r3) hx hb hr (fw_xw (mk := Value.int) h hP hS) hS.2.2 dX9_paidBits_16
    · rw [if_neg hk1] at h
      exact vx_out (fun z hz => (hex z hz).elim) hlocks hce hcv hcl (fw_xo h hk1 hP hS) hS.2.2 (Nat.le_of_ble_eq_true rfl) (Nat.le_of_ble_eq_true rfl)
  subst ha
  have hl := lv_entry ([.ref (fw_ad E 0 10), .int x1]) (n := 2) (Nat.le_of_ble_eq_true rfl)
  rw [lg_entry_eq]
  generalize (lg_sl ([.ref (fw_ad E 0 10), .int x1]) ++ List.replicate (2 - (lg_sl ([.ref (fw_ad E 0 10), .int x1])).length) Slot.unset).toArray = ls at hl ⊢
  exact EN s.heap [] ls hP va_S.rf hl
set_option maxHeartbeats 4000000 in
set_option maxRecDepth 100000 in
theorem k_X9_runCount (l : Launch) {E : fw_E} {o : Int64} {d : UInt64} (hE : fw_ok E) {μ : fw_M} {r : Int32} (h : f_X9_runCount μ = some r) : Met l yX9_runCount (fw_ws yX9_runCount cX9_runCount 1 (some .int)) ({ frames := 0, cells := 0, slots := 0, locals := 0 } : Room) (va_Pc [.ref (fw_ad E 0 10)] (fw_Pre E o d μ)) (fw_Q E o d (some (.int r)) μ) 0 0 (fw_A E) := by
  refine Met.ofW (cc := cX9_runCount) (maxL := 1) (ret := (some .int)) (by decide) rfl ?_
  intro p e s m args below meth c s₁ B hml hv
  obtain ⟨ha, hK, hP, hSt⟩ := hv
  have hx := B.exec
  have hb := B.bytes
  have hr := B.returns
  have hts := atoms_spec (ws := fw_ws yX9_runCount cX9_runCount 1 (some .int)) B.pre
  have hU : ∀ w ∈ fw_U, w.before args s = true := fun w hw => hts w (List.mem_cons_of_mem _ hw)
  have hown : s.vm.findClass RX9 = some m.cls := findClass_of_methodNamed B.named
  have hlocks := B.notSynchronized
  have EN : ∀ (H : Heap) (locs : List Loc) (ls : Array Slot), fw_P E o d μ H → va_S (fw_A E) s.heap H locs → lv_has ls 1 [(0, .ref (fw_ad E 0 10))] → W p l e (headSpec (fw_ws yX9_runCount cX9_runCount 1 (some .int)) ({ frames := 0, cells := 0, slots := 0, locals := 0 } : Room)).room s m args below meth c H locs 0 0 (MQ below (fw_Q E o d (some (.int r)) μ) args s 0 0 (fw_A E)) (F0 m 0 ls []) := by
    intro H locs ls hP hS hl
    unfold f_X9_runCount at h
    refine lv_aload_n hx hb dX9_runCount_0 rfl (lv_at hl 0 rfl) ?_
    refine va_get (D := fw_D E) (ci := 7) (v := .ref (fw_ad E 0 0)) (C := RX9) (T := TX9) (N := 9) hx hb hU inU9 hown hK (fw_at hP (fw_V0 (f := 10) (by decide) (by decide))) 0 rfl rfl 0 (by decide) (hU (Cond.fieldLink RX9 12 "LaundryService" "state" "LLaundryService$State;") m_193) (fun _ h9 => h9) rfl dX9_runCount_1 ?_
    refine va_get (D := fw_D E) (ci := 6) (v := .int (μ 0 0 9)) (C := RX7) (T := TX7) (N := 10) hx hb hU inU7 hown hK (fw_at hP (fw_Vs (f := 0) (by decide) (by decide))) 0 rfl rfl 9 (by decide) (hU (Cond.fieldLink RX9 217 "LaundryService$State" "runCount" "I") m_76) (fun _ h9 => h9) rfl dX9_runCount_4 ?_
    exact W.iret (v := (μ 0 0 9)) hx hb hr (fw_er (mk := Value.int) h hP hS) hS.2.2 dX9_runCount_7
  subst ha
  have hl := lv_entry ([.ref (fw_ad E 0 10)]) (n := 1) (Nat.le_of_ble_eq_true rfl)
  rw [lg_entry_eq]
  generalize (lg_sl ([.ref (fw_ad E 0 10)]) ++ List.replicate (1 - (lg_sl ([.ref (fw_ad E 0 10)])).length) Slot.unset).toArray = ls at hl ⊢
  exact EN s.heap [] ls hP va_S.rf hl
set_option maxHeartbeats 4000000 in
set_option maxRecDepth 100000 in
theorem k_X9_dirtierThan (l : Launch) {E : fw_E} {o : Int64} {d : UInt64} (hE : fw_ok E) {μ : fw_M} (x1 : Int32) {r : Int32} (h : f_X9_dirtierThan μ x1 = some r) : Met l yX9_dirtierThan (fw_ws yX9_dirtierThan cX9_dirtierThan 7 (some .int)) ({ frames := 2, cells := 0, slots := 0, locals := 41 } : Room) (va_Pc [.ref (fw_ad E 0 10), .int x1] (fw_Pre E o d μ)) (fw_Q E o d (some (.int r)) μ) 0 0 (fw_A E) := by
  refine Met.ofW (cc := cX9_dirtierThan) (maxL := 7) (ret := (some .int)) (by decide) rfl ?_
  intro p e s m args below meth c s₁ B hml hv
  obtain ⟨ha, hK, hP, hSt⟩ := hv
  have hx := B.exec
  have hb := B.bytes
  have hr := B.returns
  have hts := atoms_spec (ws := fw_ws yX9_dirtierThan cX9_dirtierThan 7 (some .int)) B.pre
  have hU : ∀ w ∈ fw_U, w.before args s = true := fun w hw => hts w (List.mem_cons_of_mem _ hw)
  have hown : s.vm.findClass RX9 = some m.cls := findClass_of_methodNamed B.named
  have hlocks := B.notSynchronized
  have L14 : ∀ (n : Nat) (x1 : Int32) (x2 : Int32) (x3 : Int32) (x4 : Int32) (H : Heap) (locs : List Loc) (ls : Array Slot), f_X9_dirtierThan_L14 μ n x1 x2 x3 x4 = some r → fw_P E o d μ H → va_S (fw_A E) s.heap H locs → lv_has ls 7 [(0, .ref (fw_ad E 0 10)), (1, .int x1), (2, .int x2), (3, .int x3), (4, .int x4)] → W p l e (headSpec (fw_ws yX9_dirtierThan cX9_dirtierThan 7 (some .int)) ({ frames := 2, cells := 0, slots := 0, locals := 41 } : Room)).room s m args below meth c H locs 0 0 (MQ below (fw_Q E o d (some (.int r)) μ) args s 0 0 (fw_A E)) (F0 m 14 ls []) := by
    intro n14
    induction n14 with
    | zero => intro x1 x2 x3 x4 H locs ls h; rw [f_X9_dirtierThan_L14] at h; cases h
    | succ n14 ih14 =>
      have J60 : ∀ (x1 : Int32) (x2 : Int32) (x3 : Int32) (x4 : Int32) (s0 : Int32) (H : Heap) (locs : List Loc) (ls : Array Slot), f_X9_dirtierThan_J60 (f_X9_dirtierThan_L14 μ n14) μ x1 x2 x3 x4 s0 = some r → fw_P E o d μ H → va_S (fw_A E) s.heap H locs → lv_has ls 7 [(0, .ref (fw_ad E 0 10)), (1, .int x1), (2, .int x2), (3, .int x3), (4, .int x4)] → W p l e (headSpec (fw_ws yX9_dirtierThan cX9_dirtierThan 7 (some .int)) ({ frames := 2, cells := 0, slots := 0, locals := 41 } : Room)).room s m args below meth c H locs 0 0 (MQ below (fw_Q E o d (some (.int r)) μ) args s 0 0 (fw_A E)) (F0 m 60 ls [.int s0]) := by
        intro x1 x2 x3 x4 s0 H locs ls h hP hS hl
        unfold f_X9_dirtierThan_J60 at h
        refine lv_istore (lv' := [(6, .int s0), (0, .ref (fw_ad E 0 10)), (1, .int x1), (2, .int x2), (3, .int x3), (4, .int x4)]) hx hb dX9_dirtierThan_60 hl (by decide) rfl (fun ls hl => ?_)
        refine lv_aload_n hx hb dX9_dirtierThan_62 rfl (lv_at hl 1 rfl) ?_
        refine va_get (D := fw_D E) (ci := 7) (v := .ref (fw_ad E 0 0)) (C := RX9) (T := TX9) (N := 9) hx hb hU inU9 hown hK (fw_at hP (fw_V0 (f := 10) (by decide) (by decide))) 0 rfl rfl 0 (by decide) (hU (Cond.fieldLink RX9 12 "LaundryService" "state" "LLaundryService$State;") m_193) (fun _ h9 => h9) rfl dX9_dirtierThan_63 ?_
        refine va_get (D := fw_D E) (ci := 6) (v := .ref (fw_ad E 0 5)) (C := RX7) (T := TX7) (N := 10) hx hb hU inU7 hown hK (fw_at hP (fw_Vs (f := 0) (by decide) (by decide))) 0 rfl rfl 4 (by decide) (hU (Cond.fieldLink RX9 132 "LaundryService$State" "places" "[I") m_61) (fun _ h9 => h9) rfl dX9_dirtierThan_66 ?_
        refine lv_iload hx hb dX9_dirtierThan_69 (lv_at hl 5 rfl) ?_
        obtain ⟨g7, h⟩ := fw_g_e h
        refine va_iald (D := fw_D E) hx hb hK (fw_at hP (fw_Vs (f := 5) (by decide) (by decide))) 0 0 rfl rfl (fw_in_e g7) dX9_dirtierThan_71 ?_
        refine lv_iconst (v := (3 : Int32)) hx hb dX9_dirtierThan_72 (by decide) ?_
        refine lv_icmp_eq (tgt := 84) hx hb dX9_dirtierThan_73 (by decide) (fun c8 => ?_) (fun c8 => ?_)
        · rw [if_pos c8] at h
          refine lv_iinc (v := (x4 + (1 : Int32))) (lv' := [(4, .int (x4 + (1 : Int32))), (6, .int s0), (0, .ref (fw_ad E 0 10)), (1, .int x1), (2, .int x2), (3, .int x3)]) hx hb dX9_dirtierThan_84 hl (k := 5) rfl rfl (by decide) rfl (fun ls hl => ?_)
          refine lv_goto (tgt := 14) hx hb dX9_dirtierThan_87 (by decide) ?_
          exact ih14 x1 x2 x3 (x4 + (1 : Int32)) H locs ls h hP hS (lv_sub hl [2, 3, 4, 5, 0] rfl)
        · rw [if_neg c8] at h
          refine lv_iload hx hb dX9_dirtierThan_76 (lv_at hl 0 rfl) ?_
          refine lv_if_eq (tgt := 84) hx hb dX9_dirtierThan_78 (by decide) (fun c9 => ?_) (fun c9 => ?_)
          · rw [if_pos c9] at h
            refine lv_iinc (v := (x4 + (1 : Int32))) (lv' := [(4, .int (x4 + (1 : Int32))), (6, .int s0), (0, .ref (fw_ad E 0 10)), (1, .int x1), (2, .int x2), (3, .int x3)]) hx hb dX9_dirtierThan_84 hl (k := 5) rfl rfl (by decide) rfl (fun ls hl => ?_)
            refine lv_goto (tgt := 14) hx hb dX9_dirtierThan_87 (by decide) ?_
            exact ih14 x1 x2 x3 (x4 + (1 : Int32)) H locs ls h hP hS (lv_sub hl [2, 3, 4, 5, 0] rfl)
          · rw [if_neg c9] at h
            refine lv_iinc (v := (x3 + (1 : Int32))) (lv' := [(3, .int (x3 + (1 : Int32))), (6, .int s0), (0, .ref (fw_ad E 0 10)), (1, .int x1), (2, .int x2), (4, .int x4)]) hx hb dX9_dirtierThan_81 hl (k := 4) rfl rfl (by decide) rfl (fun ls hl => ?_)
            refine lv_iinc (v := (x4 + (1 : Int32))) (lv' := [(4, .int (x4 + (1 : Int32))), (3, .int (x3 + (1 : Int32))), (6, .int s0), (0, .ref (fw_ad E 0 10)), (1, .int x1), (2, .int x2)]) hx hb dX9_dirtierThan_84 hl (k := 5) rfl rfl (by decide) rfl (fun ls hl => ?_)
            refine lv_goto (tgt := 14) hx hb dX9_dirtierThan_87 (by decide) ?_
            exact ih14 x1 x2 (x3 + (1 : Int32)) (x4 + (1 : Int32)) H locs ls h hP hS (lv_sub hl [3, 4, 5, 1, 0] rfl)
      have J55 : ∀ (x1 : Int32) (x2 : Int32) (x3 : Int32) (x4 : Int32) (H : Heap) (locs : List Loc) (ls : Array Slot), f_X9_dirtierThan_J55 (f_X9_dirtierThan_L14 μ n14) μ x1 x2 x3 x4 = some r → fw_P E o d μ H → va_S (fw_A E) s.heap H locs → lv_has ls 7 [(0, .ref (fw_ad E 0 10)), (1, .int x1), (2, .int x2), (3, .int x3), (4, .int x4)] → W p l e (headSpec (fw_ws yX9_dirtierThan cX9_dirtierThan 7 (some .int)) ({ frames := 2, cells := 0, slots := 0, locals := 41 } : Room)).room s m args below meth c H locs 0 0 (MQ below (fw_Q E o d (some (.int r)) μ) args s 0 0 (fw_A E)) (F0 m 55 ls []) := by
        intro x1 x2 x3 x4 H locs ls h hP hS hl
        unfold f_X9_dirtierThan_J55 at h
        refine lv_iconst (v := (1 : Int32)) hx hb dX9_dirtierThan_55 (by decide) ?_
        refine lv_goto (tgt := 60) hx hb dX9_dirtierThan_56 (by decide) ?_
        exact J60 x1 x2 x3 x4 (1 : Int32) H locs ls h hP hS (lv_sub hl [0, 1, 2, 3, 4] rfl)
      have J59 : ∀ (x1 : Int32) (x2 : Int32) (x3 : Int32) (x4 : Int32) (H : Heap) (locs : List Loc) (ls : Array Slot), f_X9_dirtierThan_J59 (f_X9_dirtierThan_L14 μ n14) μ x1 x2 x3 x4 = some r → fw_P E o d μ H → va_S (fw_A E) s.heap H locs → lv_has ls 7 [(0, .ref (fw_ad E 0 10)), (1, .int x1), (2, .int x2), (3, .int x3), (4, .int x4)] → W p l e (headSpec (fw_ws yX9_dirtierThan cX9_dirtierThan 7 (some .int)) ({ frames := 2, cells := 0, slots := 0, locals := 41 } : Room)).room s m args below meth c H locs 0 0 (MQ below (fw_Q E o d (some (.int r)) μ) args s 0 0 (fw_A E)) (F0 m 59 ls []) := by
        intro x1 x2 x3 x4 H locs ls h hP hS hl
        unfold f_X9_dirtierThan_J59 at h
        refine lv_iconst (v := (0 : Int32)) hx hb dX9_dirtierThan_59 (by decide) ?_
        exact J60 x1 x2 x3 x4 (0 : Int32) H locs ls h hP hS (lv_sub hl [0, 1, 2, 3, 4] rfl)
      intro x1 x2 x3 x4 H locs ls h hP hS hl
      rw [f_X9_dirtierThan_L14] at h
      refine lv_iload hx hb dX9_dirtierThan_14 (lv_at hl 4 rfl) ?_
      refine lv_aload_n hx hb dX9_dirtierThan_16 rfl (lv_at hl 0 rfl) ?_
      refine va_get (D := fw_D E) (ci := 7) (v := .ref (fw_ad E 0 0)) (C := RX9) (T := TX9) (N := 9) hx hb hU inU9 hown hK (fw_at hP (fw_V0 (f := 10) (by decide) (by decide))) 0 rfl rfl 0 (by decide) (hU (Cond.fieldLink RX9 12 "LaundryService" "state" "LLaundryService$State;") m_193) (fun _ h9 => h9) rfl dX9_dirtierThan_17 ?_
      refine va_get (D := fw_D E) (ci := 6) (v := .int (μ 0 0 6)) (C := RX7) (T := TX7) (N := 10) hx hb hU inU7 hown hK (fw_at hP (fw_Vs (f := 0) (by decide) (by decide))) 0 rfl rfl 6 (by decide) (hU (Cond.fieldLink RX9 109 "LaundryService$State" "garmentCount" "I") m_68) (fun _ h9 => h9) rfl dX9_dirtierThan_20 ?_
      refine lv_icmp_ge (tgt := 90) hx hb dX9_dirtierThan_23 (by decide) (fun c2 => ?_) (fun c2 => ?_)
      · rw [if_pos c2] at h
        refine lv_iload_n hx hb dX9_dirtierThan_90 rfl (lv_at hl 3 rfl) ?_
        exact W.iret (v := x3) hx hb hr (fw_er (mk := Value.int) h hP hS) hS.2.2 dX9_dirtierThan_91
      · rw [if_neg c2] at h
        refine lv_aload_n hx hb dX9_dirtierThan_26 rfl (lv_at hl 0 rfl) ?_
        refine va_get (D := fw_D E) (ci := 7) (v := .ref (fw_ad E 0 0)) (C := RX9) (T := TX9) (N := 9) hx hb hU inU9 hown hK (fw_at hP (fw_V0 (f := 10) (by decide) (by decide))) 0 rfl rfl 0 (by decide) (hU (Cond.fieldLink RX9 12 "LaundryService" "state" "LLaundryService$State;") m_193) (fun _ h9 => h9) rfl dX9_dirtierThan_27 ?_
        refine lv_iload hx hb dX9_dirtierThan_30 (lv_at hl 4 rfl) ?_
        obtain ⟨r3, hc3, h⟩ := fw_b1_e h
        refine fw_ret (va_runV (As := [.int x4]) (rest := []) ⟨hx, hb, hml, hown, hU⟩ (k_X7_stainsOn l hE (by decide) x4 hc3) (cwV 1 hU (fw_gV m_659 m_293 m_294 m_2 m_295) rfl rfl rfl (by decide +kernel) ⟨(Nat.le_of_ble_eq_true rfl), (Nat.le_of_ble_eq_true rfl)⟩) ⟨fw_blind, fw_recv hK hP (fw_Vs (f := 0) (by decide) (by decide)) rfl rfl, fun U hU9 hW9 => ⟨rfl, fw_pre hK hP hSt hS U hU9 hW9⟩⟩ rfl rfl hl.1 rfl (lv_room (Nat.le_of_ble_eq_true rfl)) dX9_dirtierThan_32 ⟨Nat.zero_le _, Nat.zero_le _⟩) hS (fun H locs hP hS => ?_)
        refine lv_istore (lv' := [(5, .int r3), (0, .ref (fw_ad E 0 10)), (1, .int x1), (2, .int x2), (3, .int x3), (4, .int x4)]) hx hb dX9_dirtierThan_35 hl (by decide) rfl (fun ls hl => ?_)
        refine lv_iload hx hb dX9_dirtierThan_37 (lv_at hl 0 rfl) ?_
        refine lv_iload_n hx hb dX9_dirtierThan_39 rfl (lv_at hl 3 rfl) ?_
        refine lv_icmp_gt (tgt := 55) hx hb dX9_dirtierThan_40 (by decide) (fun c4 => ?_) (fun c4 => ?_)
        · rw [if_pos c4] at h
          exact J55 x1 x2 x3 x4 H locs ls h hP hS (lv_sub hl [1, 2, 3, 4, 5] rfl)
        · rw [if_neg c4] at h
          refine lv_iload hx hb dX9_dirtierThan_43 (lv_at hl 0 rfl) ?_
          refine lv_iload_n hx hb dX9_dirtierThan_45 rfl (lv_at hl 3 rfl) ?_
          refine lv_icmp_ne (tgt := 59) hx hb dX9_dirtierThan_46 (by decide) (fun c5 => ?_) (fun c5 => ?_)
          · rw [if_neg c5] at h
            exact J59 x1 x2 x3 x4 H locs ls h hP hS (lv_sub hl [1, 2, 3, 4, 5] rfl)
          · rw [if_pos c5] at h
            refine lv_iload hx hb dX9_dirtierThan_49 (lv_at hl 5 rfl) ?_
            refine lv_iload_n hx hb dX9_dirtierThan_51 rfl (lv_at hl 2 rfl) ?_
            refine lv_icmp_ge (tgt := 59) hx hb dX9_dirtierThan_52 (by decide) (fun c6 => ?_) (fun c6 => ?_)
            · rw [if_pos c6] at h
              exact J59 x1 x2 x3 x4 H locs ls h hP hS (lv_sub hl [1, 2, 3, 4, 5] rfl)
            · rw [if_neg c6] at h
              exact J55 x1 x2 x3 x4 H locs ls h hP hS (lv_sub hl [1, 2, 3, 4, 5] rfl)
  have EN : ∀ (H : Heap) (locs : List Loc) (ls : Array Slot), fw_P E o d μ H → va_S (fw_A E) s.heap H locs → lv_has ls 7 [(0, .ref (fw_ad E 0 10)), (1, .int x1)] → W p l e (headSpec (fw_ws yX9_dirtierThan cX9_dirtierThan 7 (some .int)) ({ frames := 2, cells := 0, slots := 0, locals := 41 } : Room)).room s m args below meth c H locs 0 0 (MQ below (fw_Q E o d (some (.int r)) μ) args s 0 0 (fw_A E)) (F0 m 0 ls []) := by
    intro H locs ls hP hS hl
    unfold f_X9_dirtierThan at h
    refine lv_aload_n hx hb dX9_dirtierThan_0 rfl (lv_at hl 0 rfl) ?_
    refine va_get (D := fw_D E) (ci := 7) (v := .ref (fw_ad E 0 0)) (C := RX9) (T := TX9) (N := 9) hx hb hU inU9 hown hK (fw_at hP (fw_V0 (f := 10) (by decide) (by decide))) 0 rfl rfl 0 (by decide) (hU (Cond.fieldLink RX9 12 "LaundryService" "state" "LLaundryService$State;") m_193) (fun _ h9 => h9) rfl dX9_dirtierThan_1 ?_
    refine lv_iload_n hx hb dX9_dirtierThan_4 rfl (lv_at hl 1 rfl) ?_
    obtain ⟨r1, hc1, h⟩ := fw_b1_e h
    refine fw_ret (va_runV (As := [.int x1]) (rest := []) ⟨hx, hb, hml, hown, hU⟩ (k_X7_stainsOn l hE (by decide) x1 hc1) (cwV 1 hU (fw_gV m_659 m_293 m_294 m_2 m_295) rfl rfl rfl (by decide +kernel) ⟨(Nat.le_of_ble_eq_true rfl), (Nat.le_of_ble_eq_true rfl)⟩) ⟨fw_blind, fw_recv hK hP (fw_Vs (f := 0) (by decide) (by decide)) rfl rfl, fun U hU9 hW9 => ⟨rfl, fw_pre hK hP hSt hS U hU9 hW9⟩⟩ rfl rfl hl.1 rfl (lv_room (Nat.le_of_ble_eq_true rfl)) dX9_dirtierThan_5 ⟨Nat.zero_le _, Nat.zero_le _⟩) hS (fun H locs hP hS => ?_)
    refine lv_istore_n (lv' := [(2, .int r1), (0, .ref (fw_ad E 0 10)), (1, .int x1)]) hx hb dX9_dirtierThan_8 rfl hl (by decide) rfl (fun ls hl => ?_)
    refine lv_iconst (v := (0 : Int32)) hx hb dX9_dirtierThan_9 (by decide) ?_
    refine lv_istore_n (lv' := [(3, .int (0 : Int32)), (2, .int r1), (0, .ref (fw_ad E 0 10)), (1, .int x1)]) hx hb dX9_dirtierThan_10 rfl hl (by decide) rfl (fun ls hl => ?_)
    refine lv_iconst (v := (0 : Int32)) hx hb dX9_dirtierThan_11 (by decide) ?_
    refine lv_istore (lv' := [(4, .int (0 : Int32)), (3, .int (0 : Int32)), (2, .int r1), (0, .ref (fw_ad E 0 10)), (1, .int x1)]) hx hb dX9_dirtierThan_12 hl (by decide) rfl (fun ls hl => ?_)
    exact L14 1000 x1 r1 (0 : Int32) (0 : Int32) H locs ls h hP hS (lv_sub hl [3, 4, 2, 1, 0] rfl)
  subst ha
  have hl := lv_entry ([.ref (fw_ad E 0 10), .int x1]) (n := 7) (Nat.le_of_ble_eq_true rfl)
  rw [lg_entry_eq]
  generalize (lg_sl ([.ref (fw_ad E 0 10), .int x1]) ++ List.replicate (7 - (lg_sl ([.ref (fw_ad E 0 10), .int x1])).length) Slot.unset).toArray = ls at hl ⊢
  exact EN s.heap [] ls hP va_S.rf hl
set_option maxHeartbeats 4000000 in
set_option maxRecDepth 100000 in
theorem k_X9_spendingMoreThan (l : Launch) {E : fw_E} {o : Int64} {d : UInt64} (hE : fw_ok E) {μ : fw_M} (x1 : Int32) {r : Int32} (h : f_X9_spendingMoreThan μ x1 = some r) : Met l yX9_spendingMoreThan (fw_ws yX9_spendingMoreThan cX9_spendingMoreThan 6 (some .int)) ({ frames := 0, cells := 0, slots := 0, locals := 0 } : Room) (va_Pc [.ref (fw_ad E 0 10), .int x1] (fw_Pre E o d μ)) (fw_Q E o d (some (.int r)) μ) 0 0 (fw_A E) := by
  refine Met.ofW (cc := cX9_spendingMoreThan) (maxL := 6) (ret := (some .int)) (by decide) rfl ?_
  intro p e s m args below meth c s₁ B hml hv
  obtain ⟨ha, hK, hP, hSt⟩ := hv
  have hx := B.exec
  have hb := B.bytes
  have hr := B.returns
  have hts := atoms_spec (ws := fw_ws yX9_spendingMoreThan cX9_spendingMoreThan 6 (some .int)) B.pre
  have hU : ∀ w ∈ fw_U, w.before args s = true := fun w hw => hts w (List.mem_cons_of_mem _ hw)
  have hown : s.vm.findClass RX9 = some m.cls := findClass_of_methodNamed B.named
  have hlocks := B.notSynchronized
  have L15 : ∀ (n : Nat) (x1 : Int32) (x2 : UInt32) (x3 : Int32) (x4 : Int32) (H : Heap) (locs : List Loc) (ls : Array Slot), f_X9_spendingMoreThan_L15 μ n x1 x2 x3 x4 = some r → fw_P E o d μ H → va_S (fw_A E) s.heap H locs → lv_has ls 6 [(0, .ref (fw_ad E 0 10)), (1, .int x1), (2, .float x2), (3, .int x3), (4, .int x4)] → W p l e (headSpec (fw_ws yX9_spendingMoreThan cX9_spendingMoreThan 6 (some .int)) ({ frames := 0, cells := 0, slots := 0, locals := 0 } : Room)).room s m args below meth c H locs 0 0 (MQ below (fw_Q E o d (some (.int r)) μ) args s 0 0 (fw_A E)) (F0 m 15 ls []) := by
    intro n15
    induction n15 with
    | zero => intro x1 x2 x3 x4 H locs ls h; rw [f_X9_spendingMoreThan_L15] at h; cases h
    | succ n15 ih15 =>
      intro x1 x2 x3 x4 H locs ls h hP hS hl
      rw [f_X9_spendingMoreThan_L15] at h
      refine lv_iload hx hb dX9_spendingMoreThan_15 (lv_at hl 4 rfl) ?_
      refine lv_iconst (v := (4 : Int32)) hx hb dX9_spendingMoreThan_17 (by decide) ?_
      refine lv_icmp_ge (tgt := 62) hx hb dX9_spendingMoreThan_18 (by decide) (fun c2 => ?_) (fun c2 => ?_)
      · rw [if_pos c2] at h
        refine lv_iload_n hx hb dX9_spendingMoreThan_62 rfl (lv_at hl 3 rfl) ?_
        exact W.iret (v := x3) hx hb hr (fw_er (mk := Value.int) h hP hS) hS.2.2 dX9_spendingMoreThan_63
      · rw [if_neg c2] at h
        refine lv_aload_n hx hb dX9_spendingMoreThan_21 rfl (lv_at hl 0 rfl) ?_
        refine va_get (D := fw_D E) (ci := 7) (v := .ref (fw_ad E 0 0)) (C := RX9) (T := TX9) (N := 9) hx hb hU inU9 hown hK (fw_at hP (fw_V0 (f := 10) (by decide) (by decide))) 0 rfl rfl 0 (by decide) (hU (Cond.fieldLink RX9 12 "LaundryService" "state" "LLaundryService$State;") m_193) (fun _ h9 => h9) rfl dX9_spendingMoreThan_22 ?_
        refine va_get (D := fw_D E) (ci := 6) (v := .ref (fw_ad E 0 8)) (C := RX7) (T := TX7) (N := 10) hx hb hU inU7 hown hK (fw_at hP (fw_Vs (f := 0) (by decide) (by decide))) 0 rfl rfl 8 (by decide) (hU (Cond.fieldLink RX9 213 "LaundryService$State" "paid" "[F") m_73) (fun _ h9 => h9) rfl dX9_spendingMoreThan_25 ?_
        refine lv_iload hx hb dX9_spendingMoreThan_28 (lv_at hl 4 rfl) ?_
        obtain ⟨g3, h⟩ := fw_g_e h
        refine va_fald (D := fw_D E) hx hb hK (fw_at hP (fw_Vs (f := 8) (by decide) (by decide))) 0 3 rfl rfl (fw_in_e g3) dX9_spendingMoreThan_30 ?_
        refine lv_fstore (lv' := [(5, .float (μ 0 8 x4.toNatClampNeg).toUInt32), (0, .ref (fw_ad E 0 10)), (1, .int x1), (2, .float x2), (3, .int x3), (4, .int x4)]) hx hb dX9_spendingMoreThan_31 hl (by decide) rfl (fun ls hl => ?_)
        refine lv_fload hx hb dX9_spendingMoreThan_33 (lv_at hl 0 rfl) ?_
        refine lv_fload_n hx hb dX9_spendingMoreThan_35 rfl (lv_at hl 3 rfl) ?_
        refine lv_fcmp (op := CmpOp.l) hx hb dX9_spendingMoreThan_36 ?_
        refine lv_if_gt (tgt := 53) hx hb dX9_spendingMoreThan_37 (by decide) (fun c4 => ?_) (fun c4 => ?_)
        · rw [if_pos c4] at h
          refine lv_iinc (v := (x3 + (1 : Int32))) (lv' := [(3, .int (x3 + (1 : Int32))), (5, .float (μ 0 8 x4.toNatClampNeg).toUInt32), (0, .ref (fw_ad E 0 10)), (1, .int x1), (2, .float x2), (4, .int x4)]) hx hb dX9_spendingMoreThan_53 hl (k := 4) rfl rfl (by decide) rfl (fun ls hl => ?_)
          refine lv_iinc (v := (x4 + (1 : Int32))) (lv' := [(4, .int (x4 + (1 : Int32))), (3, .int (x3 + (1 : Int32))), (5, .float (μ 0 8 x4.toNatClampNeg).toUInt32), (0, .ref (fw_ad E 0 10)), (1, .int x1), (2, .float x2)]) hx hb dX9_spendingMoreThan_56 hl (k := 5) rfl rfl (by decide) rfl (fun ls hl => ?_)
          refine lv_goto (tgt := 15) hx hb dX9_spendingMoreThan_59 (by decide) ?_
          exact ih15 x1 x2 (x3 + (1 : Int32)) (x4 + (1 : Int32)) H locs ls h hP hS (lv_sub hl [3, 4, 5, 1, 0] rfl)
        · rw [if_neg c4] at h
          refine lv_fload hx hb dX9_spendingMoreThan_40 (lv_at hl 0 rfl) ?_
          refine lv_fload_n hx hb dX9_spendingMoreThan_42 rfl (lv_at hl 3 rfl) ?_
          refine lv_fcmp (op := CmpOp.l) hx hb dX9_spendingMoreThan_43 ?_
          refine lv_if_ne (tgt := 56) hx hb dX9_spendingMoreThan_44 (by decide) (fun c5 => ?_) (fun c5 => ?_)
          · rw [if_neg c5] at h
            refine lv_iinc (v := (x4 + (1 : Int32))) (lv' := [(4, .int (x4 + (1 : Int32))), (5, .float (μ 0 8 x4.toNatClampNeg).toUInt32), (0, .ref (fw_ad E 0 10)), (1, .int x1), (2, .float x2), (3, .int x3)]) hx hb dX9_spendingMoreThan_56 hl (k := 5) rfl rfl (by decide) rfl (fun ls hl => ?_)
            refine lv_goto (tgt := 15) hx hb dX9_spendingMoreThan_59 (by decide) ?_
            exact ih15 x1 x2 x3 (x4 + (1 : Int32)) H locs ls h hP hS (lv_sub hl [2, 3, 4, 5, 0] rfl)
          · rw [if_pos c5] at h
            refine lv_iload hx hb dX9_spendingMoreThan_47 (lv_at hl 5 rfl) ?_
            refine lv_iload_n hx hb dX9_spendingMoreThan_49 rfl (lv_at hl 2 rfl) ?_
            refine lv_icmp_ge (tgt := 56) hx hb dX9_spendingMoreThan_50 (by decide) (fun c6 => ?_) (fun c6 => ?_)
            · rw [if_pos c6] at h
              refine lv_iinc (v := (x4 + (1 : Int32))) (lv' := [(4, .int (x4 + (1 : Int32))), (5, .float (μ 0 8 x4.toNatClampNeg).toUInt32), (0, .ref (fw_ad E 0 10)), (1, .int x1), (2, .float x2), (3, .int x3)]) hx hb dX9_spendingMoreThan_56 hl (k := 5) rfl rfl (by decide) rfl (fun ls hl => ?_)
              refine lv_goto (tgt := 15) hx hb dX9_spendingMoreThan_59 (by decide) ?_
              exact ih15 x1 x2 x3 (x4 + (1 : Int32)) H locs ls h hP hS (lv_sub hl [2, 3, 4, 5, 0] rfl)
            · rw [if_neg c6] at h
              refine lv_iinc (v := (x3 + (1 : Int32))) (lv' := [(3, .int (x3 + (1 : Int32))), (5, .float (μ 0 8 x4.toNatClampNeg).toUInt32), (0, .ref (fw_ad E 0 10)), (1, .int x1), (2, .float x2), (4, .int x4)]) hx hb dX9_spendingMoreThan_53 hl (k := 4) rfl rfl (by decide) rfl (fun ls hl => ?_)
              refine lv_iinc (v := (x4 + (1 : Int32))) (lv' := [(4, .int (x4 + (1 : Int32))), (3, .int (x3 + (1 : Int32))), (5, .float (μ 0 8 x4.toNatClampNeg).toUInt32), (0, .ref (fw_ad E 0 10)), (1, .int x1), (2, .float x2)]) hx hb dX9_spendingMoreThan_56 hl (k := 5) rfl rfl (by decide) rfl (fun ls hl => ?_)
              refine lv_goto (tgt := 15) hx hb dX9_spendingMoreThan_59 (by decide) ?_
              exact ih15 x1 x2 (x3 + (1 : Int32)) (x4 + (1 : Int32)) H locs ls h hP hS (lv_sub hl [3, 4, 5, 1, 0] rfl)
  have EN : ∀ (H : Heap) (locs : List Loc) (ls : Array Slot), fw_P E o d μ H → va_S (fw_A E) s.heap H locs → lv_has ls 6 [(0, .ref (fw_ad E 0 10)), (1, .int x1)] → W p l e (headSpec (fw_ws yX9_spendingMoreThan cX9_spendingMoreThan 6 (some .int)) ({ frames := 0, cells := 0, slots := 0, locals := 0 } : Room)).room s m args below meth c H locs 0 0 (MQ below (fw_Q E o d (some (.int r)) μ) args s 0 0 (fw_A E)) (F0 m 0 ls []) := by
    intro H locs ls hP hS hl
    unfold f_X9_spendingMoreThan at h
    refine lv_aload_n hx hb dX9_spendingMoreThan_0 rfl (lv_at hl 0 rfl) ?_
    refine va_get (D := fw_D E) (ci := 7) (v := .ref (fw_ad E 0 0)) (C := RX9) (T := TX9) (N := 9) hx hb hU inU9 hown hK (fw_at hP (fw_V0 (f := 10) (by decide) (by decide))) 0 rfl rfl 0 (by decide) (hU (Cond.fieldLink RX9 12 "LaundryService" "state" "LLaundryService$State;") m_193) (fun _ h9 => h9) rfl dX9_spendingMoreThan_1 ?_
    refine va_get (D := fw_D E) (ci := 6) (v := .ref (fw_ad E 0 8)) (C := RX7) (T := TX7) (N := 10) hx hb hU inU7 hown hK (fw_at hP (fw_Vs (f := 0) (by decide) (by decide))) 0 rfl rfl 8 (by decide) (hU (Cond.fieldLink RX9 213 "LaundryService$State" "paid" "[F") m_73) (fun _ h9 => h9) rfl dX9_spendingMoreThan_4 ?_
    refine lv_iload_n hx hb dX9_spendingMoreThan_7 rfl (lv_at hl 1 rfl) ?_
    obtain ⟨g1, h⟩ := fw_g_e h
    refine va_fald (D := fw_D E) hx hb hK (fw_at hP (fw_Vs (f := 8) (by decide) (by decide))) 0 3 rfl rfl (fw_in_e g1) dX9_spendingMoreThan_8 ?_
    refine lv_fstore_n (lv' := [(2, .float (μ 0 8 x1.toNatClampNeg).toUInt32), (0, .ref (fw_ad E 0 10)), (1, .int x1)]) hx hb dX9_spendingMoreThan_9 rfl hl (by decide) rfl (fun ls hl => ?_)
    refine lv_iconst (v := (0 : Int32)) hx hb dX9_spendingMoreThan_10 (by decide) ?_
    refine lv_istore_n (lv' := [(3, .int (0 : Int32)), (2, .float (μ 0 8 x1.toNatClampNeg).toUInt32), (0, .ref (fw_ad E 0 10)), (1, .int x1)]) hx hb dX9_spendingMoreThan_11 rfl hl (by decide) rfl (fun ls hl => ?_)
    refine lv_iconst (v := (0 : Int32)) hx hb dX9_spendingMoreThan_12 (by decide) ?_
    refine lv_istore (lv' := [(4, .int (0 : Int32)), (3, .int (0 : Int32)), (2, .float (μ 0 8 x1.toNatClampNeg).toUInt32), (0, .ref (fw_ad E 0 10)), (1, .int x1)]) hx hb dX9_spendingMoreThan_13 hl (by decide) rfl (fun ls hl => ?_)
    exact L15 1000 x1 (μ 0 8 x1.toNatClampNeg).toUInt32 (0 : Int32) (0 : Int32) H locs ls h hP hS (lv_sub hl [3, 4, 2, 1, 0] rfl)
  subst ha
  have hl := lv_entry ([.ref (fw_ad E 0 10), .int x1]) (n := 6) (Nat.le_of_ble_eq_true rfl)
  rw [lg_entry_eq]
  generalize (lg_sl ([.ref (fw_ad E 0 10), .int x1]) ++ List.replicate (6 - (lg_sl ([.ref (fw_ad E 0 10), .int x1])).length) Slot.unset).toArray = ls at hl ⊢
  exact EN s.heap [] ls hP va_S.rf hl
set_option maxHeartbeats 4000000 in
set_option maxRecDepth 100000 in
theorem k_X9_meanStains (l : Launch) (hst : l.stackTraces = false) {E : fw_E} {o : Int64} {d : UInt64} (hE : fw_ok E) {μ μ' : fw_M} {r : UInt64} {k : Nat} (h : f_X9_meanStains μ = some (μ', r, k)) : vx_Met l yX9_meanStains (fw_ws yX9_meanStains cX9_meanStains 4 (some .double)) ({ frames := 6, cells := 1, slots := 6, locals := 90 } : Room) (va_Pc [.ref (fw_ad E 0 10)] (fw_Pre E o d μ)) (fw_QR E o d k (some (.double r)) μ') (fw_XC E o d k μ') 1 6 (fw_A E) := by
  refine vx_ofW (cc := cX9_meanStains) (maxL := 4) (ret := (some .double)) (by decide) rfl ?_
  intro p e s m args below meth c s₁ B hml hex hv
  obtain ⟨ha, hK, hP, hSt⟩ := hv
  have hx := B.exec
  have hb := B.bytes
  have hr := B.returns
  have hts := atoms_spec (ws := fw_ws yX9_meanStains cX9_meanStains 4 (some .double)) B.pre
  have hU : ∀ w ∈ fw_U, w.before args s = true := fun w hw => hts w (List.mem_cons_of_mem _ hw)
  have hown : s.vm.findClass RX9 = some m.cls := findClass_of_methodNamed B.named
  have hlocks := B.notSynchronized
  have L6 : ∀ (n : Nat) (μ : fw_M) (x1 : Int32) (x2 : Int32) (x3 : Int32) (H : Heap) (locs : List Loc) (ls : Array Slot), f_X9_meanStains_L6 n μ x1 x2 x3 = some (μ', r, k) → fw_P E o d μ H → va_S (fw_A E) s.heap H locs → lv_has ls 4 [(0, .ref (fw_ad E 0 10)), (1, .int x1), (2, .int x2), (3, .int x3)] → W p l e (headSpec (fw_ws yX9_meanStains cX9_meanStains 4 (some .double)) ({ frames := 6, cells := 1, slots := 6, locals := 90 } : Room)).room s m args below meth c H locs 0 0 (vx_MQ below (fw_QR E o d k (some (.double r)) μ') (fw_XC E o d k μ') args s 1 6 (fw_A E)) (F0 m 6 ls []) := by
    intro n6
    induction n6 with
    | zero => intro μ x1 x2 x3 H locs ls h; rw [f_X9_meanStains_L6] at h; cases h
    | succ n6 ih6 =>
      intro μ x1 x2 x3 H locs ls h hP hS hl
      rw [f_X9_meanStains_L6] at h
      refine lv_iload_n hx hb dX9_meanStains_6 rfl (lv_at hl 3 rfl) ?_
      refine lv_aload_n hx hb dX9_meanStains_7 rfl (lv_at hl 0 rfl) ?_
      refine va_get (D := fw_D E) (ci := 7) (v := .ref (fw_ad E 0 0)) (C := RX9) (T := TX9) (N := 9) hx hb hU inU9 hown hK (fw_at hP (fw_V0 (f := 10) (by decide) (by decide))) 0 rfl rfl 0 (by decide) (hU (Cond.fieldLink RX9 12 "LaundryService" "state" "LLaundryService$State;") m_193) (fun _ h9 => h9) rfl dX9_meanStains_8 ?_
      refine va_get (D := fw_D E) (ci := 6) (v := .int (μ 0 0 6)) (C := RX7) (T := TX7) (N := 10) hx hb hU inU7 hown hK (fw_at hP (fw_Vs (f := 0) (by decide) (by decide))) 0 rfl rfl 6 (by decide) (hU (Cond.fieldLink RX9 109 "LaundryService$State" "garmentCount" "I") m_68) (fun _ h9 => h9) rfl dX9_meanStains_11 ?_
      refine lv_icmp_ge (tgt := 50) hx hb dX9_meanStains_14 (by decide) (fun c1 => ?_) (fun c1 => ?_)
      · rw [if_pos c1] at h
        refine lv_iload_n hx hb dX9_meanStains_50 rfl (lv_at hl 2 rfl) ?_
        refine lv_if_ne (tgt := 64) hx hb dX9_meanStains_51 (by decide) (fun c2 => ?_) (fun c2 => ?_)
        · rw [if_neg c2] at h
          refine lv_iload_n hx hb dX9_meanStains_64 rfl (lv_at hl 1 rfl) ?_
          refine lv_i2d hx hb dX9_meanStains_65 ?_
          refine lv_iload_n hx hb dX9_meanStains_66 rfl (lv_at hl 2 rfl) ?_
          refine lv_i2d hx hb dX9_meanStains_67 ?_
          obtain ⟨g3, h⟩ := fw_g_e h
          refine lv_ddiv hx hb dX9_meanStains_68 (fw_f64_e g3) ?_
          refine W.widen (k := 1) (n := 6) (Nat.le_of_ble_eq_true rfl) (Nat.le_of_ble_eq_true rfl) (vx_ret ?_)
          exact W.dret (v := (FP.ddiv (FP.i2d x1) (FP.i2d x2))) hx hb hr (fw_xw (mk := Value.double) h hP hS) hS.2.2 dX9_meanStains_69
        · rw [if_pos c2] at h
          exact fw_throw hx hb hst hown hU hSt hP hS (m_898) (m_30) (List.mem_of_getElem? (i := 5) rfl) thr_234 (hl.1.trans hml.symm) dX9_meanStains_54 dX9_meanStains_57 dX9_meanStains_58 dX9_meanStains_60 dX9_meanStains_63 hex (Nat.le_of_ble_eq_true rfl) (Nat.le_of_ble_eq_true rfl) (Nat.le_of_ble_eq_true rfl) (Nat.le_of_ble_eq_true rfl) hlocks h (by decide) rfl (Nat.le_of_ble_eq_true rfl) (Nat.le_of_ble_eq_true rfl)
      · rw [if_neg c1] at h
        refine lv_aload_n hx hb dX9_meanStains_17 rfl (lv_at hl 0 rfl) ?_
        refine va_get (D := fw_D E) (ci := 7) (v := .ref (fw_ad E 0 0)) (C := RX9) (T := TX9) (N := 9) hx hb hU inU9 hown hK (fw_at hP (fw_V0 (f := 10) (by decide) (by decide))) 0 rfl rfl 0 (by decide) (hU (Cond.fieldLink RX9 12 "LaundryService" "state" "LLaundryService$State;") m_193) (fun _ h9 => h9) rfl dX9_meanStains_18 ?_
        refine va_get (D := fw_D E) (ci := 6) (v := .ref (fw_ad E 0 5)) (C := RX7) (T := TX7) (N := 10) hx hb hU inU7 hown hK (fw_at hP (fw_Vs (f := 0) (by decide) (by decide))) 0 rfl rfl 4 (by decide) (hU (Cond.fieldLink RX9 132 "LaundryService$State" "places" "[I") m_61) (fun _ h9 => h9) rfl dX9_meanStains_21 ?_
        refine lv_iload_n hx hb dX9_meanStains_24 rfl (lv_at hl 3 rfl) ?_
        obtain ⟨g4, h⟩ := fw_g_e h
        refine va_iald (D := fw_D E) hx hb hK (fw_at hP (fw_Vs (f := 5) (by decide) (by decide))) 0 0 rfl rfl (fw_in_e g4) dX9_meanStains_25 ?_
        refine lv_iconst (v := (3 : Int32)) hx hb dX9_meanStains_26 (by decide) ?_
        refine lv_icmp_eq (tgt := 44) hx hb dX9_meanStains_27 (by decide) (fun c5 => ?_) (fun c5 => ?_)
        · rw [if_pos c5] at h
          refine lv_iinc (v := (x3 + (1 : Int32))) (lv' := [(3, .int (x3 + (1 : Int32))), (0, .ref (fw_ad E 0 10)), (1, .int x1), (2, .int x2)]) hx hb dX9_meanStains_44 hl (k := 3) rfl rfl (by decide) rfl (fun ls hl => ?_)
          refine lv_goto (tgt := 6) hx hb dX9_meanStains_47 (by decide) ?_
          exact ih6 μ x1 x2 (x3 + (1 : Int32)) H locs ls h hP hS (lv_sub hl [1, 2, 3, 0] rfl)
        · rw [if_neg c5] at h
          refine lv_iload_n hx hb dX9_meanStains_30 rfl (lv_at hl 1 rfl) ?_
          refine lv_aload_n hx hb dX9_meanStains_31 rfl (lv_at hl 0 rfl) ?_
          refine va_get (D := fw_D E) (ci := 7) (v := .ref (fw_ad E 0 0)) (C := RX9) (T := TX9) (N := 9) hx hb hU inU9 hown hK (fw_at hP (fw_V0 (f := 10) (by decide) (by decide))) 0 rfl rfl 0 (by decide) (hU (Cond.fieldLink RX9 12 "LaundryService" "state" "LLaundryService$State;") m_193) (fun _ h9 => h9) rfl dX9_meanStains_32 ?_
          refine lv_iload_n hx hb dX9_meanStains_35 rfl (lv_at hl 3 rfl) ?_
          obtain ⟨r6, hc6, h⟩ := fw_b1_e h
          refine fw_ret (va_runV (As := [.int x3]) (rest := [.int x1]) ⟨hx, hb, hml, hown, hU⟩ (k_X7_stainsOn l hE (by decide) x3 hc6) (cwV 1 hU (fw_gV m_659 m_293 m_294 m_2 m_295) rfl rfl rfl (by decide +kernel) ⟨(Nat.le_of_ble_eq_true rfl), (Nat.le_of_ble_eq_true rfl)⟩) ⟨fw_blind, fw_recv hK hP (fw_Vs (f := 0) (by decide) (by decide)) rfl rfl, fun U hU9 hW9 => ⟨rfl, fw_pre hK hP hSt hS U hU9 hW9⟩⟩ rfl rfl hl.1 rfl (lv_room (Nat.le_of_ble_eq_true rfl)) dX9_meanStains_36 ⟨Nat.zero_le _, Nat.zero_le _⟩) hS (fun H locs hP hS => ?_)
          refine lv_iadd hx hb dX9_meanStains_39 ?_
          refine lv_istore_n (lv' := [(1, .int (x1 + r6)), (0, .ref (fw_ad E 0 10)), (2, .int x2), (3, .int x3)]) hx hb dX9_meanStains_40 rfl hl (by decide) rfl (fun ls hl => ?_)
          refine lv_iinc (v := (x2 + (1 : Int32))) (lv' := [(2, .int (x2 + (1 : Int32))), (1, .int (x1 + r6)), (0, .ref (fw_ad E 0 10)), (3, .int x3)]) hx hb dX9_meanStains_41 hl (k := 2) rfl rfl (by decide) rfl (fun ls hl => ?_)
          refine lv_iinc (v := (x3 + (1 : Int32))) (lv' := [(3, .int (x3 + (1 : Int32))), (2, .int (x2 + (1 : Int32))), (1, .int (x1 + r6)), (0, .ref (fw_ad E 0 10))]) hx hb dX9_meanStains_44 hl (k := 3) rfl rfl (by decide) rfl (fun ls hl => ?_)
          refine lv_goto (tgt := 6) hx hb dX9_meanStains_47 (by decide) ?_
          exact ih6 μ (x1 + r6) (x2 + (1 : Int32)) (x3 + (1 : Int32)) H locs ls h hP hS (lv_sub hl [3, 2, 1, 0] rfl)
  have EN : ∀ (H : Heap) (locs : List Loc) (ls : Array Slot), fw_P E o d μ H → va_S (fw_A E) s.heap H locs → lv_has ls 4 [(0, .ref (fw_ad E 0 10))] → W p l e (headSpec (fw_ws yX9_meanStains cX9_meanStains 4 (some .double)) ({ frames := 6, cells := 1, slots := 6, locals := 90 } : Room)).room s m args below meth c H locs 0 0 (vx_MQ below (fw_QR E o d k (some (.double r)) μ') (fw_XC E o d k μ') args s 1 6 (fw_A E)) (F0 m 0 ls []) := by
    intro H locs ls hP hS hl
    unfold f_X9_meanStains at h
    refine lv_iconst (v := (0 : Int32)) hx hb dX9_meanStains_0 (by decide) ?_
    refine lv_istore_n (lv' := [(1, .int (0 : Int32)), (0, .ref (fw_ad E 0 10))]) hx hb dX9_meanStains_1 rfl hl (by decide) rfl (fun ls hl => ?_)
    refine lv_iconst (v := (0 : Int32)) hx hb dX9_meanStains_2 (by decide) ?_
    refine lv_istore_n (lv' := [(2, .int (0 : Int32)), (1, .int (0 : Int32)), (0, .ref (fw_ad E 0 10))]) hx hb dX9_meanStains_3 rfl hl (by decide) rfl (fun ls hl => ?_)
    refine lv_iconst (v := (0 : Int32)) hx hb dX9_meanStains_4 (by decide) ?_
    refine lv_istore_n (lv' := [(3, .int (0 : Int32)), (2, .int (0 : Int32)), (1, .int (0 : Int32)), (0, .ref (fw_ad E 0 10))]) hx hb dX9_meanStains_5 rfl hl (by decide) rfl (fun ls hl => ?_)
    exact L6 1000 μ (0 : Int32) (0 : Int32) (0 : Int32) H locs ls h hP hS (lv_sub hl [3, 2, 1, 0] rfl)
  subst ha
  have hl := lv_entry ([.ref (fw_ad E 0 10)]) (n := 4) (Nat.le_of_ble_eq_true rfl)
  rw [lg_entry_eq]
  generalize (lg_sl ([.ref (fw_ad E 0 10)]) ++ List.replicate (4 - (lg_sl ([.ref (fw_ad E 0 10)])).length) Slot.unset).toArray = ls at hl ⊢
  exact EN s.heap [] ls hP va_S.rf hl
set_option maxHeartbeats 4000000 in
set_option maxRecDepth 100000 in
theorem k_X9_lostShare (l : Launch) (hst : l.stackTraces = false) {E : fw_E} {o : Int64} {d : UInt64} (hE : fw_ok E) {μ μ' : fw_M} {r : UInt32} {k : Nat} (h : f_X9_lostShare μ = some (μ', r, k)) : vx_Met l yX9_lostShare (fw_ws yX9_lostShare cX9_lostShare 2 (some .float)) ({ frames := 6, cells := 1, slots := 6, locals := 90 } : Room) (va_Pc [.ref (fw_ad E 0 10)] (fw_Pre E o d μ)) (fw_QR E o d k (some (.float r)) μ') (fw_XC E o d k μ') 1 6 (fw_A E) := by
  refine vx_ofW (cc := cX9_lostShare) (maxL := 2) (ret := (some .float)) (by decide) rfl ?_
  intro p e s m args below meth c s₁ B hml hex hv
  obtain ⟨ha, hK, hP, hSt⟩ := hv
  have hx := B.exec
  have hb := B.bytes
  have hr := B.returns
  have hts := atoms_spec (ws := fw_ws yX9_lostShare cX9_lostShare 2 (some .float)) B.pre
  have hU : ∀ w ∈ fw_U, w.before args s = true := fun w hw => hts w (List.mem_cons_of_mem _ hw)
  have hown : s.vm.findClass RX9 = some m.cls := findClass_of_methodNamed B.named
  have hlocks := B.notSynchronized
  have EN : ∀ (H : Heap) (locs : List Loc) (ls : Array Slot), fw_P E o d μ H → va_S (fw_A E) s.heap H locs → lv_has ls 2 [(0, .ref (fw_ad E 0 10))] → W p l e (headSpec (fw_ws yX9_lostShare cX9_lostShare 2 (some .float)) ({ frames := 6, cells := 1, slots := 6, locals := 90 } : Room)).room s m args below meth c H locs 0 0 (vx_MQ below (fw_QR E o d k (some (.float r)) μ') (fw_XC E o d k μ') args s 1 6 (fw_A E)) (F0 m 0 ls []) := by
    intro H locs ls hP hS hl
    unfold f_X9_lostShare at h
    refine lv_aload_n hx hb dX9_lostShare_0 rfl (lv_at hl 0 rfl) ?_
    refine va_get (D := fw_D E) (ci := 7) (v := .ref (fw_ad E 0 0)) (C := RX9) (T := TX9) (N := 9) hx hb hU inU9 hown hK (fw_at hP (fw_V0 (f := 10) (by decide) (by decide))) 0 rfl rfl 0 (by decide) (hU (Cond.fieldLink RX9 12 "LaundryService" "state" "LLaundryService$State;") m_193) (fun _ h9 => h9) rfl dX9_lostShare_1 ?_
    refine va_get (D := fw_D E) (ci := 6) (v := .int (μ 0 0 6)) (C := RX7) (T := TX7) (N := 10) hx hb hU inU7 hown hK (fw_at hP (fw_Vs (f := 0) (by decide) (by decide))) 0 rfl rfl 6 (by decide) (hU (Cond.fieldLink RX9 109 "LaundryService$State" "garmentCount" "I") m_68) (fun _ h9 => h9) rfl dX9_lostShare_4 ?_
    refine lv_if_ne (tgt := 20) hx hb dX9_lostShare_7 (by decide) (fun c1 => ?_) (fun c1 => ?_)
    · rw [if_neg c1] at h
      refine lv_aload_n hx hb dX9_lostShare_20 rfl (lv_at hl 0 rfl) ?_
      refine va_get (D := fw_D E) (ci := 7) (v := .ref (fw_ad E 0 0)) (C := RX9) (T := TX9) (N := 9) hx hb hU inU9 hown hK (fw_at hP (fw_V0 (f := 10) (by decide) (by decide))) 0 rfl rfl 0 (by decide) (hU (Cond.fieldLink RX9 12 "LaundryService" "state" "LLaundryService$State;") m_193) (fun _ h9 => h9) rfl dX9_lostShare_21 ?_
      refine lv_iconst (v := (3 : Int32)) hx hb dX9_lostShare_24 (by decide) ?_
      obtain ⟨r2, hc2, h⟩ := fw_b1_e h
      refine fw_ret (va_runV (As := [.int (3 : Int32)]) (rest := []) ⟨hx, hb, hml, hown, hU⟩ (k_X7_garmentsAt l hE (by decide) (3 : Int32) hc2) (cwV 1 hU (fw_gV m_229 m_230 m_231 m_2 m_232) rfl rfl rfl (by decide +kernel) ⟨(Nat.le_of_ble_eq_true rfl), (Nat.le_of_ble_eq_true rfl)⟩) ⟨fw_blind, fw_recv hK hP (fw_Vs (f := 0) (by decide) (by decide)) rfl rfl, fun U hU9 hW9 => ⟨rfl, fw_pre hK hP hSt hS U hU9 hW9⟩⟩ rfl rfl hl.1 rfl (lv_room (Nat.le_of_ble_eq_true rfl)) dX9_lostShare_25 ⟨Nat.zero_le _, Nat.zero_le _⟩) hS (fun H locs hP hS => ?_)
      obtain ⟨r3, hc3, h⟩ := fw_b1_e h
      refine fw_ret (va_runS (As := [.int r2]) (rest := []) ⟨hx, hb, hml, hown, hU⟩ (k_J6_bitCount_0f7a4 l hE r2 hc3) (va_cwS 1 hU (fw_gS m_909 m_268 m_22 m_269) rfl rfl rfl (by decide +kernel) ⟨(Nat.le_of_ble_eq_true rfl), (Nat.le_of_ble_eq_true rfl)⟩) ⟨fw_blind, fun U hU9 hW9 => ⟨rfl, fw_pre hK hP hSt hS U hU9 hW9⟩⟩ rfl rfl hl.1 rfl (lv_room (Nat.le_of_ble_eq_true rfl)) dX9_lostShare_28 ⟨Nat.zero_le _, Nat.zero_le _⟩) hS (fun H locs hP hS => ?_)
      refine lv_istore_n (lv' := [(1, .int r3), (0, .ref (fw_ad E 0 10))]) hx hb dX9_lostShare_31 rfl hl (by decide) rfl (fun ls hl => ?_)
      refine lv_iload_n hx hb dX9_lostShare_32 rfl (lv_at hl 0 rfl) ?_
      refine lv_i2f hx hb dX9_lostShare_33 ?_
      refine lv_aload_n hx hb dX9_lostShare_34 rfl (lv_at hl 1 rfl) ?_
      refine va_get (D := fw_D E) (ci := 7) (v := .ref (fw_ad E 0 0)) (C := RX9) (T := TX9) (N := 9) hx hb hU inU9 hown hK (fw_at hP (fw_V0 (f := 10) (by decide) (by decide))) 0 rfl rfl 0 (by decide) (hU (Cond.fieldLink RX9 12 "LaundryService" "state" "LLaundryService$State;") m_193) (fun _ h9 => h9) rfl dX9_lostShare_35 ?_
      refine va_get (D := fw_D E) (ci := 6) (v := .int (μ 0 0 6)) (C := RX7) (T := TX7) (N := 10) hx hb hU inU7 hown hK (fw_at hP (fw_Vs (f := 0) (by decide) (by decide))) 0 rfl rfl 6 (by decide) (hU (Cond.fieldLink RX9 109 "LaundryService$State" "garmentCount" "I") m_68) (fun _ h9 => h9) rfl dX9_lostShare_38 ?_
      refine lv_i2f hx hb dX9_lostShare_41 ?_
      obtain ⟨g4, h⟩ := fw_g_e h
      refine lv_fdiv hx hb dX9_lostShare_42 (fw_f32_e g4) ?_
      refine W.widen (k := 1) (n := 6) (Nat.le_of_ble_eq_true rfl) (Nat.le_of_ble_eq_true rfl) (vx_ret ?_)
      exact W.fret (v := (FP.fdiv (FP.i2f r3) (FP.i2f (μ 0 0 6)))) hx hb hr (fw_xw (mk := Value.float) h hP hS) hS.2.2 dX9_lostShare_43
    · rw [if_pos c1] at h
      exact fw_throw hx hb hst hown hU hSt hP hS (m_898) (m_30) (List.mem_of_getElem? (i := 6) rfl) thr_234 (hl.1.trans hml.symm) dX9_lostShare_10 dX9_lostShare_13 dX9_lostShare_14 dX9_lostShare_16 dX9_lostShare_19 hex (Nat.le_of_ble_eq_true rfl) (Nat.le_of_ble_eq_true rfl) (Nat.le_of_ble_eq_true rfl) (Nat.le_of_ble_eq_true rfl) hlocks h (by decide) rfl (Nat.le_of_ble_eq_true rfl) (Nat.le_of_ble_eq_true rfl)
  subst ha
  have hl := lv_entry ([.ref (fw_ad E 0 10)]) (n := 2) (Nat.le_of_ble_eq_true rfl)
  rw [lg_entry_eq]
  generalize (lg_sl ([.ref (fw_ad E 0 10)]) ++ List.replicate (2 - (lg_sl ([.ref (fw_ad E 0 10)])).length) Slot.unset).toArray = ls at hl ⊢
  exact EN s.heap [] ls hP va_S.rf hl
set_option maxHeartbeats 4000000 in
set_option maxRecDepth 100000 in
theorem k_X9_machinesAgree (l : Launch) {E : fw_E} {o : Int64} {d : UInt64} (hE : fw_ok E) {μ μ' : fw_M} {r : Int32} (h : f_X9_machinesAgree μ = some (μ', r)) : Met l yX9_machinesAgree (fw_ws yX9_machinesAgree cX9_machinesAgree 3 (some .boolean)) ({ frames := 5, cells := 0, slots := 0, locals := 114 } : Room) (va_Pc [.ref (fw_ad E 0 10)] (fw_Pre E o d μ)) (fw_Q E o d (some (.int r)) μ') 0 0 (fw_A E) := by
  refine Met.ofW (cc := cX9_machinesAgree) (maxL := 3) (ret := (some .boolean)) (by decide) rfl ?_
  intro p e s m args below meth c s₁ B hml hv
  obtain ⟨ha, hK, hP, hSt⟩ := hv
  have hx := B.exec
  have hb := B.bytes
  have hr := B.returns
  have hts := atoms_spec (ws := fw_ws yX9_machinesAgree cX9_machinesAgree 3 (some .boolean)) B.pre
  have hU : ∀ w ∈ fw_U, w.before args s = true := fun w hw => hts w (List.mem_cons_of_mem _ hw)
  have hown : s.vm.findClass RX9 = some m.cls := findClass_of_methodNamed B.named
  have hlocks := B.notSynchronized
  have L2 : ∀ (n : Nat) (μ : fw_M) (x1 : Int32) (H : Heap) (locs : List Loc) (ls : Array Slot), f_X9_machinesAgree_L2 n μ x1 = some (μ', r) → fw_P E o d μ H → va_S (fw_A E) s.heap H locs → lv_has ls 3 [(0, .ref (fw_ad E 0 10)), (1, .int x1)] → W p l e (headSpec (fw_ws yX9_machinesAgree cX9_machinesAgree 3 (some .boolean)) ({ frames := 5, cells := 0, slots := 0, locals := 114 } : Room)).room s m args below meth c H locs 0 0 (MQ below (fw_Q E o d (some (.int r)) μ') args s 0 0 (fw_A E)) (F0 m 2 ls []) := by
    intro n2
    induction n2 with
    | zero => intro μ x1 H locs ls h; rw [f_X9_machinesAgree_L2] at h; cases h
    | succ n2 ih2 =>
      intro μ x1 H locs ls h hP hS hl
      rw [f_X9_machinesAgree_L2] at h
      refine lv_iload_n hx hb dX9_machinesAgree_2 rfl (lv_at hl 1 rfl) ?_
      refine lv_iconst (v := (2 : Int32)) hx hb dX9_machinesAgree_3 (by decide) ?_
      refine lv_icmp_ge (tgt := 54) hx hb dX9_machinesAgree_4 (by decide) (fun c1 => ?_) (fun c1 => ?_)
      · rw [if_pos c1] at h
        refine lv_iconst (v := (1 : Int32)) hx hb dX9_machinesAgree_54 (by decide) ?_
        exact W.zret (v := (1 : Int32)) hx hb hr rfl (fw_ew (mk := Value.int) h hP hS) hS.2.2 dX9_machinesAgree_55
      · rw [if_neg c1] at h
        refine lv_aload_n hx hb dX9_machinesAgree_7 rfl (lv_at hl 0 rfl) ?_
        refine va_get (D := fw_D E) (ci := 7) (v := .ref (fw_ad E 0 0)) (C := RX9) (T := TX9) (N := 9) hx hb hU inU9 hown hK (fw_at hP (fw_V0 (f := 10) (by decide) (by decide))) 0 rfl rfl 0 (by decide) (hU (Cond.fieldLink RX9 12 "LaundryService" "state" "LLaundryService$State;") m_193) (fun _ h9 => h9) rfl dX9_machinesAgree_8 ?_
        refine lv_iload_n hx hb dX9_machinesAgree_11 rfl (lv_at hl 1 rfl) ?_
        refine lv_aload_n hx hb dX9_machinesAgree_12 rfl (lv_at hl 0 rfl) ?_
        refine va_get (D := fw_D E) (ci := 7) (v := .ref (fw_ad E 0 0)) (C := RX9) (T := TX9) (N := 9) hx hb hU inU9 hown hK (fw_at hP (fw_V0 (f := 10) (by decide) (by decide))) 0 rfl rfl 0 (by decide) (hU (Cond.fieldLink RX9 12 "LaundryService" "state" "LLaundryService$State;") m_193) (fun _ h9 => h9) rfl dX9_machinesAgree_13 ?_
        refine va_get (D := fw_D E) (ci := 6) (v := .ref (fw_ad E 0 7)) (C := RX7) (T := TX7) (N := 10) hx hb hU inU7 hown hK (fw_at hP (fw_Vs (f := 0) (by decide) (by decide))) 0 rfl rfl 7 (by decide) (hU (Cond.fieldLink RX9 96 "LaundryService$State" "halves" "[I") m_71) (fun _ h9 => h9) rfl dX9_machinesAgree_16 ?_
        refine lv_iload_n hx hb dX9_machinesAgree_19 rfl (lv_at hl 1 rfl) ?_
        obtain ⟨g2, h⟩ := fw_g_e h
        refine va_iald (D := fw_D E) hx hb hK (fw_at hP (fw_Vs (f := 7) (by decide) (by decide))) 0 0 rfl rfl (fw_in_e g2) dX9_machinesAgree_20 ?_
        obtain ⟨r3, hc3, h⟩ := fw_b1_e h
        refine fw_ret (va_runS (As := [.ref (fw_ad E 0 0), .int x1, .int (μ 0 7 x1.toNatClampNeg)]) (rest := []) ⟨hx, hb, hml, hown, hU⟩ (k_X8_damageFromSets l hE (by decide) x1 (μ 0 7 x1.toNatClampNeg) hc3) (va_cwS 3 hU (fw_gS m_245 m_246 m_23 m_247) rfl rfl rfl (by decide +kernel) ⟨(Nat.le_of_ble_eq_true rfl), (Nat.le_of_ble_eq_true rfl)⟩) ⟨fw_blind, fun U hU9 hW9 => ⟨rfl, fw_pre hK hP hSt hS U hU9 hW9⟩⟩ rfl rfl hl.1 rfl (lv_room (Nat.le_of_ble_eq_true rfl)) dX9_machinesAgree_21 ⟨Nat.zero_le _, Nat.zero_le _⟩) hS (fun H locs hP hS => ?_)
        refine lv_istore_n (lv' := [(2, .int r3), (0, .ref (fw_ad E 0 10)), (1, .int x1)]) hx hb dX9_machinesAgree_24 rfl hl (by decide) rfl (fun ls hl => ?_)
        refine lv_aload_n hx hb dX9_machinesAgree_25 rfl (lv_at hl 1 rfl) ?_
        refine lv_iload_n hx hb dX9_machinesAgree_26 rfl (lv_at hl 2 rfl) ?_
        obtain ⟨μ4, r4, hc4, h⟩ := fw_b2_e h
        refine fw_ret (va_runV (As := [.int x1]) (rest := []) ⟨hx, hb, hml, hown, hU⟩ (k_X9_damageOfTrial l hE x1 hc4) (cwV 1 hU (fw_gV m_278 m_280 ms_1 m_1 m_281) rfl rfl rfl (by decide +kernel) ⟨(Nat.le_of_ble_eq_true rfl), (Nat.le_of_ble_eq_true rfl)⟩) ⟨fw_blind, fw_recv hK hP (fw_V0 (f := 10) (by decide) (by decide)) rfl rfl, fun U hU9 hW9 => ⟨rfl, fw_pre hK hP hSt hS U hU9 hW9⟩⟩ rfl rfl hl.1 rfl (lv_room (Nat.le_of_ble_eq_true rfl)) dX9_machinesAgree_27 ⟨Nat.zero_le _, Nat.zero_le _⟩) hS (fun H locs hP hS => ?_)
        refine lv_iload_n hx hb dX9_machinesAgree_30 rfl (lv_at hl 0 rfl) ?_
        refine lv_icmp_ne (tgt := 46) hx hb dX9_machinesAgree_31 (by decide) (fun c5 => ?_) (fun c5 => ?_)
        · rw [if_neg c5] at h
          refine lv_iconst (v := (0 : Int32)) hx hb dX9_machinesAgree_46 (by decide) ?_
          exact W.zret (v := (0 : Int32)) hx hb hr rfl (fw_ew (mk := Value.int) h hP hS) hS.2.2 dX9_machinesAgree_47
        · rw [if_pos c5] at h
          refine lv_aload_n hx hb dX9_machinesAgree_34 rfl (lv_at hl 1 rfl) ?_
          refine va_get (D := fw_D E) (ci := 7) (v := .ref (fw_ad E 0 0)) (C := RX9) (T := TX9) (N := 9) hx hb hU inU9 hown hK (fw_at hP (fw_V0 (f := 10) (by decide) (by decide))) 0 rfl rfl 0 (by decide) (hU (Cond.fieldLink RX9 12 "LaundryService" "state" "LLaundryService$State;") m_193) (fun _ h9 => h9) rfl dX9_machinesAgree_35 ?_
          refine lv_iload_n hx hb dX9_machinesAgree_38 rfl (lv_at hl 2 rfl) ?_
          obtain ⟨r6, hc6, h⟩ := fw_b1_e h
          refine fw_ret (va_runV (As := [.int x1]) (rest := []) ⟨hx, hb, hml, hown, hU⟩ (k_X7_countIn l hE (by decide) x1 hc6) (cwV 1 hU (fw_gV m_305 m_263 m_264 m_2 m_265) rfl rfl rfl (by decide +kernel) ⟨(Nat.le_of_ble_eq_true rfl), (Nat.le_of_ble_eq_true rfl)⟩) ⟨fw_blind, fw_recv hK hP (fw_Vs (f := 0) (by decide) (by decide)) rfl rfl, fun U hU9 hW9 => ⟨rfl, fw_pre hK hP hSt hS U hU9 hW9⟩⟩ rfl rfl hl.1 rfl (lv_room (Nat.le_of_ble_eq_true rfl)) dX9_machinesAgree_39 ⟨Nat.zero_le _, Nat.zero_le _⟩) hS (fun H locs hP hS => ?_)
          refine lv_iconst (v := (5 : Int32)) hx hb dX9_machinesAgree_42 (by decide) ?_
          refine lv_icmp_le (tgt := 48) hx hb dX9_machinesAgree_43 (by decide) (fun c7 => ?_) (fun c7 => ?_)
          · rw [if_pos c7] at h
            refine lv_iinc (v := (x1 + (1 : Int32))) (lv' := [(1, .int (x1 + (1 : Int32))), (2, .int r3), (0, .ref (fw_ad E 0 10))]) hx hb dX9_machinesAgree_48 hl (k := 2) rfl rfl (by decide) rfl (fun ls hl => ?_)
            refine lv_goto (tgt := 2) hx hb dX9_machinesAgree_51 (by decide) ?_
            exact ih2 μ4 (x1 + (1 : Int32)) H locs ls h hP hS (lv_sub hl [2, 0] rfl)
          · rw [if_neg c7] at h
            refine lv_iconst (v := (0 : Int32)) hx hb dX9_machinesAgree_46 (by decide) ?_
            exact W.zret (v := (0 : Int32)) hx hb hr rfl (fw_ew (mk := Value.int) h hP hS) hS.2.2 dX9_machinesAgree_47
  have EN : ∀ (H : Heap) (locs : List Loc) (ls : Array Slot), fw_P E o d μ H → va_S (fw_A E) s.heap H locs → lv_has ls 3 [(0, .ref (fw_ad E 0 10))] → W p l e (headSpec (fw_ws yX9_machinesAgree cX9_machinesAgree 3 (some .boolean)) ({ frames := 5, cells := 0, slots := 0, locals := 114 } : Room)).room s m args below meth c H locs 0 0 (MQ below (fw_Q E o d (some (.int r)) μ') args s 0 0 (fw_A E)) (F0 m 0 ls []) := by
    intro H locs ls hP hS hl
    unfold f_X9_machinesAgree at h
    refine lv_iconst (v := (0 : Int32)) hx hb dX9_machinesAgree_0 (by decide) ?_
    refine lv_istore_n (lv' := [(1, .int (0 : Int32)), (0, .ref (fw_ad E 0 10))]) hx hb dX9_machinesAgree_1 rfl hl (by decide) rfl (fun ls hl => ?_)
    exact L2 1000 μ (0 : Int32) H locs ls h hP hS (lv_sub hl [1, 0] rfl)
  subst ha
  have hl := lv_entry ([.ref (fw_ad E 0 10)]) (n := 3) (Nat.le_of_ble_eq_true rfl)
  rw [lg_entry_eq]
  generalize (lg_sl ([.ref (fw_ad E 0 10)]) ++ List.replicate (3 - (lg_sl ([.ref (fw_ad E 0 10)])).length) Slot.unset).toArray = ls at hl ⊢
  exact EN s.heap [] ls hP va_S.rf hl
set_option maxHeartbeats 4000000 in
set_option maxRecDepth 100000 in
theorem k_X9_pairsAgree (l : Launch) {E : fw_E} {o : Int64} {d : UInt64} (hE : fw_ok E) {μ : fw_M} {r : Int32} (h : f_X9_pairsAgree μ = some r) : Met l yX9_pairsAgree (fw_ws yX9_pairsAgree cX9_pairsAgree 2 (some .boolean)) ({ frames := 4, cells := 0, slots := 0, locals := 90 } : Room) (va_Pc [.ref (fw_ad E 0 10)] (fw_Pre E o d μ)) (fw_Q E o d (some (.int r)) μ) 0 0 (fw_A E) := by
  refine Met.ofW (cc := cX9_pairsAgree) (maxL := 2) (ret := (some .boolean)) (by decide) rfl ?_
  intro p e s m args below meth c s₁ B hml hv
  obtain ⟨ha, hK, hP, hSt⟩ := hv
  have hx := B.exec
  have hb := B.bytes
  have hr := B.returns
  have hts := atoms_spec (ws := fw_ws yX9_pairsAgree cX9_pairsAgree 2 (some .boolean)) B.pre
  have hU : ∀ w ∈ fw_U, w.before args s = true := fun w hw => hts w (List.mem_cons_of_mem _ hw)
  have hown : s.vm.findClass RX9 = some m.cls := findClass_of_methodNamed B.named
  have hlocks := B.notSynchronized
  have L2 : ∀ (n : Nat) (x1 : Int32) (H : Heap) (locs : List Loc) (ls : Array Slot), f_X9_pairsAgree_L2 μ n x1 = some r → fw_P E o d μ H → va_S (fw_A E) s.heap H locs → lv_has ls 2 [(0, .ref (fw_ad E 0 10)), (1, .int x1)] → W p l e (headSpec (fw_ws yX9_pairsAgree cX9_pairsAgree 2 (some .boolean)) ({ frames := 4, cells := 0, slots := 0, locals := 90 } : Room)).room s m args below meth c H locs 0 0 (MQ below (fw_Q E o d (some (.int r)) μ) args s 0 0 (fw_A E)) (F0 m 2 ls []) := by
    intro n2
    induction n2 with
    | zero => intro x1 H locs ls h; rw [f_X9_pairsAgree_L2] at h; cases h
    | succ n2 ih2 =>
      intro x1 H locs ls h hP hS hl
      rw [f_X9_pairsAgree_L2] at h
      refine lv_iload_n hx hb dX9_pairsAgree_2 rfl (lv_at hl 1 rfl) ?_
      refine lv_iconst (v := (4 : Int32)) hx hb dX9_pairsAgree_3 (by decide) ?_
      refine lv_icmp_ge (tgt := 34) hx hb dX9_pairsAgree_4 (by decide) (fun c1 => ?_) (fun c1 => ?_)
      · rw [if_pos c1] at h
        refine lv_iconst (v := (1 : Int32)) hx hb dX9_pairsAgree_34 (by decide) ?_
        exact W.zret (v := (1 : Int32)) hx hb hr rfl (fw_er (mk := Value.int) h hP hS) hS.2.2 dX9_pairsAgree_35
      · rw [if_neg c1] at h
        refine lv_aload_n hx hb dX9_pairsAgree_7 rfl (lv_at hl 0 rfl) ?_
        refine va_get (D := fw_D E) (ci := 7) (v := .ref (fw_ad E 0 0)) (C := RX9) (T := TX9) (N := 9) hx hb hU inU9 hown hK (fw_at hP (fw_V0 (f := 10) (by decide) (by decide))) 0 rfl rfl 0 (by decide) (hU (Cond.fieldLink RX9 12 "LaundryService" "state" "LLaundryService$State;") m_193) (fun _ h9 => h9) rfl dX9_pairsAgree_8 ?_
        refine lv_iload_n hx hb dX9_pairsAgree_11 rfl (lv_at hl 1 rfl) ?_
        obtain ⟨r2, hc2, h⟩ := fw_b1_e h
        refine fw_ret (va_runS (As := [.ref (fw_ad E 0 0), .int x1]) (rest := []) ⟨hx, hb, hml, hown, hU⟩ (k_X6_formed l hE (by decide) x1 hc2) (va_cwS 2 hU (fw_gS m_310 m_311 m_28 m_312) rfl rfl rfl (by decide +kernel) ⟨(Nat.le_of_ble_eq_true rfl), (Nat.le_of_ble_eq_true rfl)⟩) ⟨fw_blind, fun U hU9 hW9 => ⟨rfl, fw_pre hK hP hSt hS U hU9 hW9⟩⟩ rfl rfl hl.1 rfl (lv_room (Nat.le_of_ble_eq_true rfl)) dX9_pairsAgree_12 ⟨Nat.zero_le _, Nat.zero_le _⟩) hS (fun H locs hP hS => ?_)
        refine lv_aload_n hx hb dX9_pairsAgree_15 rfl (lv_at hl 0 rfl) ?_
        refine va_get (D := fw_D E) (ci := 7) (v := .ref (fw_ad E 0 0)) (C := RX9) (T := TX9) (N := 9) hx hb hU inU9 hown hK (fw_at hP (fw_V0 (f := 10) (by decide) (by decide))) 0 rfl rfl 0 (by decide) (hU (Cond.fieldLink RX9 12 "LaundryService" "state" "LLaundryService$State;") m_193) (fun _ h9 => h9) rfl dX9_pairsAgree_16 ?_
        refine lv_iload_n hx hb dX9_pairsAgree_19 rfl (lv_at hl 1 rfl) ?_
        obtain ⟨r3, hc3, h⟩ := fw_b1_e h
        refine fw_ret (va_runS (As := [.ref (fw_ad E 0 0), .int x1]) (rest := [.int r2]) ⟨hx, hb, hml, hown, hU⟩ (k_X6_byParity l hE (by decide) x1 hc3) (va_cwS 2 hU (fw_gS m_323 m_324 m_28 m_325) rfl rfl rfl (by decide +kernel) ⟨(Nat.le_of_ble_eq_true rfl), (Nat.le_of_ble_eq_true rfl)⟩) ⟨fw_blind, fun U hU9 hW9 => ⟨rfl, fw_pre hK hP hSt hS U hU9 hW9⟩⟩ rfl rfl hl.1 rfl (lv_room (Nat.le_of_ble_eq_true rfl)) dX9_pairsAgree_20 ⟨Nat.zero_le _, Nat.zero_le _⟩) hS (fun H locs hP hS => ?_)
        refine lv_icmp_eq (tgt := 28) hx hb dX9_pairsAgree_23 (by decide) (fun c4 => ?_) (fun c4 => ?_)
        · rw [if_pos c4] at h
          refine lv_iinc (v := (x1 + (1 : Int32))) (lv' := [(1, .int (x1 + (1 : Int32))), (0, .ref (fw_ad E 0 10))]) hx hb dX9_pairsAgree_28 hl (k := 1) rfl rfl (by decide) rfl (fun ls hl => ?_)
          refine lv_goto (tgt := 2) hx hb dX9_pairsAgree_31 (by decide) ?_
          exact ih2 (x1 + (1 : Int32)) H locs ls h hP hS (lv_sub hl [1, 0] rfl)
        · rw [if_neg c4] at h
          refine lv_iconst (v := (0 : Int32)) hx hb dX9_pairsAgree_26 (by decide) ?_
          exact W.zret (v := (0 : Int32)) hx hb hr rfl (fw_er (mk := Value.int) h hP hS) hS.2.2 dX9_pairsAgree_27
  have EN : ∀ (H : Heap) (locs : List Loc) (ls : Array Slot), fw_P E o d μ H → va_S (fw_A E) s.heap H locs → lv_has ls 2 [(0, .ref (fw_ad E 0 10))] → W p l e (headSpec (fw_ws yX9_pairsAgree cX9_pairsAgree 2 (some .boolean)) ({ frames := 4, cells := 0, slots := 0, locals := 90 } : Room)).room s m args below meth c H locs 0 0 (MQ below (fw_Q E o d (some (.int r)) μ) args s 0 0 (fw_A E)) (F0 m 0 ls []) := by
    intro H locs ls hP hS hl
    unfold f_X9_pairsAgree at h
    refine lv_iconst (v := (0 : Int32)) hx hb dX9_pairsAgree_0 (by decide) ?_
    refine lv_istore_n (lv' := [(1, .int (0 : Int32)), (0, .ref (fw_ad E 0 10))]) hx hb dX9_pairsAgree_1 rfl hl (by decide) rfl (fun ls hl => ?_)
    exact L2 1000 (0 : Int32) H locs ls h hP hS (lv_sub hl [1, 0] rfl)
  subst ha
  have hl := lv_entry ([.ref (fw_ad E 0 10)]) (n := 2) (Nat.le_of_ble_eq_true rfl)
  rw [lg_entry_eq]
  generalize (lg_sl ([.ref (fw_ad E 0 10)]) ++ List.replicate (2 - (lg_sl ([.ref (fw_ad E 0 10)])).length) Slot.unset).toArray = ls at hl ⊢
  exact EN s.heap [] ls hP va_S.rf hl
set_option maxHeartbeats 4000000 in
set_option maxRecDepth 100000 in
theorem k_X9_isConsistent (l : Launch) {E : fw_E} {o : Int64} {d : UInt64} (hE : fw_ok E) {μ μ' : fw_M} {r : Int32} (h : f_X9_isConsistent μ = some (μ', r)) : Met l yX9_isConsistent (fw_ws yX9_isConsistent cX9_isConsistent 1 (some .boolean)) ({ frames := 6, cells := 0, slots := 0, locals := 136 } : Room) (va_Pc [.ref (fw_ad E 0 10)] (fw_Pre E o d μ)) (fw_Q E o d (some (.int r)) μ') 0 0 (fw_A E) := by
  refine Met.ofW (cc := cX9_isConsistent) (maxL := 1) (ret := (some .boolean)) (by decide) rfl ?_
  intro p e s m args below meth c s₁ B hml hv
  obtain ⟨ha, hK, hP, hSt⟩ := hv
  have hx := B.exec
  have hb := B.bytes
  have hr := B.returns
  have hts := atoms_spec (ws := fw_ws yX9_isConsistent cX9_isConsistent 1 (some .boolean)) B.pre
  have hU : ∀ w ∈ fw_U, w.before args s = true := fun w hw => hts w (List.mem_cons_of_mem _ hw)
  have hown : s.vm.findClass RX9 = some m.cls := findClass_of_methodNamed B.named
  have hlocks := B.notSynchronized
  have EN : ∀ (H : Heap) (locs : List Loc) (ls : Array Slot), fw_P E o d μ H → va_S (fw_A E) s.heap H locs → lv_has ls 1 [(0, .ref (fw_ad E 0 10))] → W p l e (headSpec (fw_ws yX9_isConsistent cX9_isConsistent 1 (some .boolean)) ({ frames := 6, cells := 0, slots := 0, locals := 136 } : Room)).room s m args below meth c H locs 0 0 (MQ below (fw_Q E o d (some (.int r)) μ') args s 0 0 (fw_A E)) (F0 m 0 ls []) := by
    intro H locs ls hP hS hl
    unfold f_X9_isConsistent at h
    refine lv_aload_n hx hb dX9_isConsistent_0 rfl (lv_at hl 0 rfl) ?_
    obtain ⟨μ1, r1, hc1, h⟩ := fw_b2_e h
    refine fw_ret (va_runV (As := []) (rest := []) ⟨hx, hb, hml, hown, hU⟩ (k_X9_machinesAgree l hE hc1) (cwV 0 hU (fw_gV m_241 m_243 ms_0 m_1 m_244) rfl rfl rfl (by decide +kernel) ⟨(Nat.le_of_ble_eq_true rfl), (Nat.le_of_ble_eq_true rfl)⟩) ⟨fw_blind, fw_recv hK hP (fw_V0 (f := 10) (by decide) (by decide)) rfl rfl, fun U hU9 hW9 => ⟨rfl, fw_pre hK hP hSt hS U hU9 hW9⟩⟩ rfl rfl hl.1 rfl (lv_room (Nat.le_of_ble_eq_true rfl)) dX9_isConsistent_1 ⟨Nat.zero_le _, Nat.zero_le _⟩) hS (fun H locs hP hS => ?_)
    refine lv_if_eq (tgt := 18) hx hb dX9_isConsistent_4 (by decide) (fun c2 => ?_) (fun c2 => ?_)
    · rw [if_pos c2] at h
      refine lv_iconst (v := (0 : Int32)) hx hb dX9_isConsistent_18 (by decide) ?_
      exact W.zret (v := (0 : Int32)) hx hb hr rfl (fw_ew (mk := Value.int) h hP hS) hS.2.2 dX9_isConsistent_19
    · rw [if_neg c2] at h
      refine lv_aload_n hx hb dX9_isConsistent_7 rfl (lv_at hl 0 rfl) ?_
      obtain ⟨r3, hc3, h⟩ := fw_b1_e h
      refine fw_ret (va_runV (As := []) (rest := []) ⟨hx, hb, hml, hown, hU⟩ (k_X9_pairsAgree l hE hc3) (cwV 0 hU (fw_gV m_306 m_308 ms_2 m_1 m_309) rfl rfl rfl (by decide +kernel) ⟨(Nat.le_of_ble_eq_true rfl), (Nat.le_of_ble_eq_true rfl)⟩) ⟨fw_blind, fw_recv hK hP (fw_V0 (f := 10) (by decide) (by decide)) rfl rfl, fun U hU9 hW9 => ⟨rfl, fw_pre hK hP hSt hS U hU9 hW9⟩⟩ rfl rfl hl.1 rfl (lv_room (Nat.le_of_ble_eq_true rfl)) dX9_isConsistent_8 ⟨Nat.zero_le _, Nat.zero_le _⟩) hS (fun H locs hP hS => ?_)
      refine lv_if_eq (tgt := 18) hx hb dX9_isConsistent_11 (by decide) (fun c4 => ?_) (fun c4 => ?_)
      · rw [if_pos c4] at h
        refine lv_iconst (v := (0 : Int32)) hx hb dX9_isConsistent_18 (by decide) ?_
        exact W.zret (v := (0 : Int32)) hx hb hr rfl (fw_ew (mk := Value.int) h hP hS) hS.2.2 dX9_isConsistent_19
      · rw [if_neg c4] at h
        refine lv_iconst (v := (1 : Int32)) hx hb dX9_isConsistent_14 (by decide) ?_
        refine lv_goto (tgt := 19) hx hb dX9_isConsistent_15 (by decide) ?_
        exact W.zret (v := (1 : Int32)) hx hb hr rfl (fw_ew (mk := Value.int) h hP hS) hS.2.2 dX9_isConsistent_19
  subst ha
  have hl := lv_entry ([.ref (fw_ad E 0 10)]) (n := 1) (Nat.le_of_ble_eq_true rfl)
  rw [lg_entry_eq]
  generalize (lg_sl ([.ref (fw_ad E 0 10)]) ++ List.replicate (1 - (lg_sl ([.ref (fw_ad E 0 10)])).length) Slot.unset).toArray = ls at hl ⊢
  exact EN s.heap [] ls hP va_S.rf hl
set_option maxHeartbeats 4000000 in
set_option maxRecDepth 100000 in
theorem k_X9_feed (l : Launch) (hst : l.stackTraces = false) {E : fw_E} {o : Int64} {d : UInt64} (hE : fw_ok E) {μ μ' : fw_M} (x1 : Int32) {r : Int32} {k : Nat} (h : f_X9_feed μ x1 = some (μ', r, k)) : vx_Met l yX9_feed (fw_ws yX9_feed cX9_feed 2 (some .int)) ({ frames := 6, cells := 1, slots := 6, locals := 90 } : Room) (va_Pc [.ref (fw_ad E 0 10), .int x1] (fw_Pre E o d μ)) (fw_QR E o d k (some (.int r)) μ') (fw_XC E o d k μ') 1 6 (fw_A E) := by
  refine vx_ofW (cc := cX9_feed) (maxL := 2) (ret := (some .int)) (by decide) rfl ?_
  intro p e s m args below meth c s₁ B hml hex hv
  obtain ⟨ha, hK, hP, hSt⟩ := hv
  have hx := B.exec
  have hb := B.bytes
  have hr := B.returns
  have hts := atoms_spec (ws := fw_ws yX9_feed cX9_feed 2 (some .int)) B.pre
  have hU : ∀ w ∈ fw_U, w.before args s = true := fun w hw => hts w (List.mem_cons_of_mem _ hw)
  have hown : s.vm.findClass RX9 = some m.cls := findClass_of_methodNamed B.named
  have hlocks := B.notSynchronized
  have EN : ∀ (H : Heap) (locs : List Loc) (ls : Array Slot), fw_P E o d μ H → va_S (fw_A E) s.heap H locs → lv_has ls 2 [(0, .ref (fw_ad E 0 10)), (1, .int x1)] → W p l e (headSpec (fw_ws yX9_feed cX9_feed 2 (some .int)) ({ frames := 6, cells := 1, slots := 6, locals := 90 } : Room)).room s m args below meth c H locs 0 0 (vx_MQ below (fw_QR E o d k (some (.int r)) μ') (fw_XC E o d k μ') args s 1 6 (fw_A E)) (F0 m 0 ls []) := by
    intro H locs ls hP hS hl
    unfold f_X9_feed at h
    refine lv_aload_n hx hb dX9_feed_0 rfl (lv_at hl 0 rfl) ?_
    refine va_get (D := fw_D E) (ci := 7) (v := .ref (fw_ad E 0 13)) (C := RX9) (T := TX9) (N := 9) hx hb hU inU9 hown hK (fw_at hP (fw_V0 (f := 10) (by decide) (by decide))) 0 rfl rfl 5 (by decide) (hU (Cond.fieldLink RX9 36 "LaundryService" "input" "LLaundryService$CommandText;") m_198) (fun _ h9 => h9) rfl dX9_feed_1 ?_
    refine va_get (D := fw_D E) (ci := 3) (v := .int (μ 0 13 1)) (C := RX1) (T := TX1) (N := 5) hx hb hU inU1 hown hK (fw_at hP (fw_V0 (f := 13) (by decide) (by decide))) 0 rfl rfl 1 (by decide) (hU (Cond.fieldLink RX9 249 "LaundryService$CommandText" "length" "I") m_160) (fun _ h9 => h9) rfl dX9_feed_4 ?_
    refine lv_bipush (v := (60 : Int32)) hx hb dX9_feed_7 (by decide) ?_
    refine lv_icmp_lt (tgt := 22) hx hb dX9_feed_9 (by decide) (fun c1 => ?_) (fun c1 => ?_)
    · rw [if_pos c1] at h
      refine lv_aload_n hx hb dX9_feed_22 rfl (lv_at hl 0 rfl) ?_
      refine va_get (D := fw_D E) (ci := 7) (v := .ref (fw_ad E 0 13)) (C := RX9) (T := TX9) (N := 9) hx hb hU inU9 hown hK (fw_at hP (fw_V0 (f := 10) (by decide) (by decide))) 0 rfl rfl 5 (by decide) (hU (Cond.fieldLink RX9 36 "LaundryService" "input" "LLaundryService$CommandText;") m_198) (fun _ h9 => h9) rfl dX9_feed_23 ?_
      refine lv_iload_n hx hb dX9_feed_26 rfl (lv_at hl 1 rfl) ?_
      obtain ⟨μ2, r2, hc2, h⟩ := fw_b2_e h
      refine fw_ret (va_runV (As := [.int x1]) (rest := []) ⟨hx, hb, hml, hown, hU⟩ (k_X1_append l hE x1 hc2) (cwV 1 hU (fw_gV m_918 m_919 m_920 m_4 m_921) rfl rfl rfl (by decide +kernel) ⟨(Nat.le_of_ble_eq_true rfl), (Nat.le_of_ble_eq_true rfl)⟩) ⟨fw_blind, fw_recv hK hP (fw_V0 (f := 13) (by decide) (by decide)) rfl rfl, fun U hU9 hW9 => ⟨rfl, fw_pre hK hP hSt hS U hU9 hW9⟩⟩ rfl rfl hl.1 rfl (lv_room (Nat.le_of_ble_eq_true rfl)) dX9_feed_27 ⟨Nat.zero_le _, Nat.zero_le _⟩) hS (fun H locs hP hS => ?_)
      refine W.widen (k := 1) (n := 6) (Nat.le_of_ble_eq_true rfl) (Nat.le_of_ble_eq_true rfl) (vx_ret ?_)
      exact W.iret (v := r2) hx hb hr (fw_xw (mk := Value.int) h hP hS) hS.2.2 dX9_feed_30
    · rw [if_neg c1] at h
      exact fw_throw hx hb hst hown hU hSt hP hS (m_492) (m_19) (List.mem_of_getElem? (i := 7) rfl) thr_205 (hl.1.trans hml.symm) dX9_feed_12 dX9_feed_15 dX9_feed_16 dX9_feed_18 dX9_feed_21 hex (Nat.le_of_ble_eq_true rfl) (Nat.le_of_ble_eq_true rfl) (Nat.le_of_ble_eq_true rfl) (Nat.le_of_ble_eq_true rfl) hlocks h (by decide) rfl (Nat.le_of_ble_eq_true rfl) (Nat.le_of_ble_eq_true rfl)
  subst ha
  have hl := lv_entry ([.ref (fw_ad E 0 10), .int x1]) (n := 2) (Nat.le_of_ble_eq_true rfl)
  rw [lg_entry_eq]
  generalize (lg_sl ([.ref (fw_ad E 0 10), .int x1]) ++ List.replicate (2 - (lg_sl ([.ref (fw_ad E 0 10), .int x1])).length) Slot.unset).toArray = ls at hl ⊢
  exact EN s.heap [] ls hP va_S.rf hl
set_option maxHeartbeats 4000000 in
set_option maxRecDepth 100000 in
theorem k_X9_faultOf (l : Launch) {E : fw_E} {o : Int64} {d : UInt64} (hE : fw_ok E) {μ : fw_M} {j0 : Nat} (hj0 : j0 < 12) {r : Int32} (h : f_X9_faultOf μ j0 = some r) : Met l yX9_faultOf (fw_ws yX9_faultOf cX9_faultOf 2 (some (.object "LaundryService$Fault"))) ({ frames := 3, cells := 0, slots := 0, locals := 66 } : Room) (va_Pc [.ref (fw_ad E 0 10), .ref (fw_ad E j0 9)] (fw_Pre E o d μ)) (fw_Q E o d (some (fw_fv E r)) μ) 0 0 (fw_A E) := by
  refine Met.ofW (cc := cX9_faultOf) (maxL := 2) (ret := (some (.object "LaundryService$Fault"))) (by decide) rfl ?_
  intro p e s m args below meth c s₁ B hml hv
  obtain ⟨ha, hK, hP, hSt⟩ := hv
  have hx := B.exec
  have hb := B.bytes
  have hr := B.returns
  have hts := atoms_spec (ws := fw_ws yX9_faultOf cX9_faultOf 2 (some (.object "LaundryService$Fault"))) B.pre
  have hU : ∀ w ∈ fw_U, w.before args s = true := fun w hw => hts w (List.mem_cons_of_mem _ hw)
  have hown : s.vm.findClass RX9 = some m.cls := findClass_of_methodNamed B.named
  have hlocks := B.notSynchronized
  have J20 : ∀ (H : Heap) (locs : List Loc) (ls : Array Slot), f_X9_faultOf_J20 μ j0 = some r → fw_P E o d μ H → va_S (fw_A E) s.heap H locs → lv_has ls 2 [(0, .ref (fw_ad E 0 10)), (1, .ref (fw_ad E j0 9))] → W p l e (headSpec (fw_ws yX9_faultOf cX9_faultOf 2 (some (.object "LaundryService$Fault"))) ({ frames := 3, cells := 0, slots := 0, locals := 66 } : Room)).room s m args below meth c H locs 0 0 (MQ below (fw_Q E o d (some (fw_fv E r)) μ) args s 0 0 (fw_A E)) (F0 m 20 ls []) := by
    intro  H locs ls h hP hS hl
    unfold f_X9_faultOf_J20 at h
    refine lv_aload_n hx hb dX9_faultOf_20 rfl (lv_at hl 0 rfl) ?_
    refine va_get (D := fw_D E) (ci := 7) (v := .ref (fw_ad E 0 0)) (C := RX9) (T := TX9) (N := 9) hx hb hU inU9 hown hK (fw_at hP (fw_V0 (f := 10) (by decide) (by decide))) 0 rfl rfl 0 (by decide) (hU (Cond.fieldLink RX9 12 "LaundryService" "state" "LLaundryService$State;") m_193) (fun _ h9 => h9) rfl dX9_faultOf_21 ?_
    refine lv_aload_n hx hb dX9_faultOf_24 rfl (lv_at hl 1 rfl) ?_
    refine va_get (D := fw_D E) (ci := 2) (v := .int (μ j0 9 1)) (C := RX0) (T := TX0) (N := 4) hx hb hU inU0 hown hK (fw_at hP (fw_Vs (f := 9) (by decide) hj0)) 0 rfl rfl 1 (by decide) (hU (Cond.fieldLink RX9 403 "LaundryService$Command" "first" "I") m_141) (fun _ h9 => h9) rfl dX9_faultOf_25 ?_
    refine lv_aload_n hx hb dX9_faultOf_28 rfl (lv_at hl 1 rfl) ?_
    refine va_get (D := fw_D E) (ci := 2) (v := .int (μ j0 9 2)) (C := RX0) (T := TX0) (N := 4) hx hb hU inU0 hown hK (fw_at hP (fw_Vs (f := 9) (by decide) hj0)) 0 rfl rfl 2 (by decide) (hU (Cond.fieldLink RX9 406 "LaundryService$Command" "second" "I") m_144) (fun _ h9 => h9) rfl dX9_faultOf_29 ?_
    refine lv_aload_n hx hb dX9_faultOf_32 rfl (lv_at hl 1 rfl) ?_
    refine va_get (D := fw_D E) (ci := 2) (v := .int (μ j0 9 3)) (C := RX0) (T := TX0) (N := 4) hx hb hU inU0 hown hK (fw_at hP (fw_Vs (f := 9) (by decide) hj0)) 0 rfl rfl 3 (by decide) (hU (Cond.fieldLink RX9 409 "LaundryService$Command" "third" "I") m_147) (fun _ h9 => h9) rfl dX9_faultOf_33 ?_
    obtain ⟨r10, hc10, h⟩ := fw_b1_e h
    refine fw_ret (va_runV (As := [.int (μ j0 9 1), .int (μ j0 9 2), .int (μ j0 9 3)]) (rest := []) ⟨hx, hb, hml, hown, hU⟩ (k_X7_faultOfBringing l hE (by decide) (μ j0 9 1) (μ j0 9 2) (μ j0 9 3) hc10) (cwV 3 hU (fw_gV m_424 m_425 m_426 m_2 m_427) rfl rfl rfl (by decide +kernel) ⟨(Nat.le_of_ble_eq_true rfl), (Nat.le_of_ble_eq_true rfl)⟩) ⟨fw_blind, fw_recv hK hP (fw_Vs (f := 0) (by decide) (by decide)) rfl rfl, fun U hU9 hW9 => ⟨rfl, fw_pre hK hP hSt hS U hU9 hW9⟩⟩ rfl rfl hl.1 rfl (lv_room (Nat.le_of_ble_eq_true rfl)) dX9_faultOf_36 ⟨Nat.zero_le _, Nat.zero_le _⟩) hS (fun H locs hP hS => ?_)
    exact W.aret (v := fw_fv E r10) hx hb hr (Or.inl ⟨_, rfl⟩) (Or.inr ⟨_, rfl⟩) (fw_er (mk := fw_fv E) h hP hS) hS.2.2 dX9_faultOf_39
  have EN : ∀ (H : Heap) (locs : List Loc) (ls : Array Slot), fw_P E o d μ H → va_S (fw_A E) s.heap H locs → lv_has ls 2 [(0, .ref (fw_ad E 0 10)), (1, .ref (fw_ad E j0 9))] → W p l e (headSpec (fw_ws yX9_faultOf cX9_faultOf 2 (some (.object "LaundryService$Fault"))) ({ frames := 3, cells := 0, slots := 0, locals := 66 } : Room)).room s m args below meth c H locs 0 0 (MQ below (fw_Q E o d (some (fw_fv E r)) μ) args s 0 0 (fw_A E)) (F0 m 0 ls []) := by
    intro H locs ls hP hS hl
    unfold f_X9_faultOf at h
    refine lv_aload_n hx hb dX9_faultOf_0 rfl (lv_at hl 1 rfl) ?_
    refine va_get (D := fw_D E) (ci := 2) (v := fw_kv E (μ j0 9 0)) (C := RX0) (T := TX0) (N := 4) hx hb hU inU0 hown hK (fw_at hP (fw_Vs (f := 9) (by decide) hj0)) 0 rfl rfl 0 (by decide) (hU (Cond.fieldLink RX9 389 "LaundryService$Command" "keyword" "LLaundryService$Keyword;") m_138) (fun _ h9 => h9) rfl dX9_faultOf_1 ?_
    refine va_gets (v := fw_kv E (0 : Int32)) hx hb (fw_zk_SOCK hSt) hS hown (hU (Cond.fieldLink RX9 395 "LaundryService$Keyword" "SOCK" "LLaundryService$Keyword;") m_1022) (fun _ h9 => h9) dX9_faultOf_4 ?_
    obtain ⟨g1, h⟩ := fw_g_e h
    refine fw_acmp_eqk hx hb hE g1 (by decide) (tgt := 20) dX9_faultOf_7 (by decide) (fun c1 => ?_) (fun c1 => ?_)
    · rw [if_pos c1] at h
      exact J20  H locs ls h hP hS (lv_sub hl [0, 1] rfl)
    · rw [if_neg c1] at h
      refine lv_aload_n hx hb dX9_faultOf_10 rfl (lv_at hl 1 rfl) ?_
      refine va_get (D := fw_D E) (ci := 2) (v := fw_kv E (μ j0 9 0)) (C := RX0) (T := TX0) (N := 4) hx hb hU inU0 hown hK (fw_at hP (fw_Vs (f := 9) (by decide) hj0)) 0 rfl rfl 0 (by decide) (hU (Cond.fieldLink RX9 389 "LaundryService$Command" "keyword" "LLaundryService$Keyword;") m_138) (fun _ h9 => h9) rfl dX9_faultOf_11 ?_
      refine va_gets (v := fw_kv E (1 : Int32)) hx hb (fw_zk_SHIRT hSt) hS hown (hU (Cond.fieldLink RX9 400 "LaundryService$Keyword" "SHIRT" "LLaundryService$Keyword;") m_1024) (fun _ h9 => h9) dX9_faultOf_14 ?_
      obtain ⟨g2, h⟩ := fw_g_e h
      refine fw_acmp_nek hx hb hE g2 (by decide) (tgt := 40) dX9_faultOf_17 (by decide) (fun c2 => ?_) (fun c2 => ?_)
      · rw [if_neg c2] at h
        refine lv_aload_n hx hb dX9_faultOf_40 rfl (lv_at hl 1 rfl) ?_
        refine va_get (D := fw_D E) (ci := 2) (v := fw_kv E (μ j0 9 0)) (C := RX0) (T := TX0) (N := 4) hx hb hU inU0 hown hK (fw_at hP (fw_Vs (f := 9) (by decide) hj0)) 0 rfl rfl 0 (by decide) (hU (Cond.fieldLink RX9 389 "LaundryService$Command" "keyword" "LLaundryService$Keyword;") m_138) (fun _ h9 => h9) rfl dX9_faultOf_41 ?_
        refine va_gets (v := fw_kv E (2 : Int32)) hx hb (fw_zk_LOAD hSt) hS hown (hU (Cond.fieldLink RX9 412 "LaundryService$Keyword" "LOAD" "LLaundryService$Keyword;") m_1026) (fun _ h9 => h9) dX9_faultOf_44 ?_
        obtain ⟨g3, h⟩ := fw_g_e h
        refine fw_acmp_nek hx hb hE g3 (by decide) (tgt := 66) dX9_faultOf_47 (by decide) (fun c3 => ?_) (fun c3 => ?_)
        · rw [if_neg c3] at h
          refine lv_aload_n hx hb dX9_faultOf_66 rfl (lv_at hl 1 rfl) ?_
          refine va_get (D := fw_D E) (ci := 2) (v := fw_kv E (μ j0 9 0)) (C := RX0) (T := TX0) (N := 4) hx hb hU inU0 hown hK (fw_at hP (fw_Vs (f := 9) (by decide) hj0)) 0 rfl rfl 0 (by decide) (hU (Cond.fieldLink RX9 389 "LaundryService$Command" "keyword" "LLaundryService$Keyword;") m_138) (fun _ h9 => h9) rfl dX9_faultOf_67 ?_
          refine va_gets (v := fw_kv E (3 : Int32)) hx hb (fw_zk_OUT hSt) hS hown (hU (Cond.fieldLink RX9 415 "LaundryService$Keyword" "OUT" "LLaundryService$Keyword;") m_1028) (fun _ h9 => h9) dX9_faultOf_70 ?_
          obtain ⟨g5, h⟩ := fw_g_e h
          refine fw_acmp_nek hx hb hE g5 (by decide) (tgt := 88) dX9_faultOf_73 (by decide) (fun c5 => ?_) (fun c5 => ?_)
          · rw [if_neg c5] at h
            refine lv_aload_n hx hb dX9_faultOf_88 rfl (lv_at hl 1 rfl) ?_
            refine va_get (D := fw_D E) (ci := 2) (v := fw_kv E (μ j0 9 0)) (C := RX0) (T := TX0) (N := 4) hx hb hU inU0 hown hK (fw_at hP (fw_Vs (f := 9) (by decide) hj0)) 0 rfl rfl 0 (by decide) (hU (Cond.fieldLink RX9 389 "LaundryService$Command" "keyword" "LLaundryService$Keyword;") m_138) (fun _ h9 => h9) rfl dX9_faultOf_89 ?_
            refine va_gets (v := fw_kv E (4 : Int32)) hx hb (fw_zk_HEAT hSt) hS hown (hU (Cond.fieldLink RX9 418 "LaundryService$Keyword" "HEAT" "LLaundryService$Keyword;") m_1030) (fun _ h9 => h9) dX9_faultOf_92 ?_
            obtain ⟨g7, h⟩ := fw_g_e h
            refine fw_acmp_nek hx hb hE g7 (by decide) (tgt := 116) dX9_faultOf_95 (by decide) (fun c7 => ?_) (fun c7 => ?_)
            · rw [if_neg c7] at h
              refine lv_aload_n hx hb dX9_faultOf_116 rfl (lv_at hl 0 rfl) ?_
              refine va_get (D := fw_D E) (ci := 7) (v := .ref (fw_ad E 0 0)) (C := RX9) (T := TX9) (N := 9) hx hb hU inU9 hown hK (fw_at hP (fw_V0 (f := 10) (by decide) (by decide))) 0 rfl rfl 0 (by decide) (hU (Cond.fieldLink RX9 12 "LaundryService" "state" "LLaundryService$State;") m_193) (fun _ h9 => h9) rfl dX9_faultOf_117 ?_
              refine lv_aload_n hx hb dX9_faultOf_120 rfl (lv_at hl 1 rfl) ?_
              refine va_get (D := fw_D E) (ci := 2) (v := .int (μ j0 9 1)) (C := RX0) (T := TX0) (N := 4) hx hb hU inU0 hown hK (fw_at hP (fw_Vs (f := 9) (by decide) hj0)) 0 rfl rfl 1 (by decide) (hU (Cond.fieldLink RX9 403 "LaundryService$Command" "first" "I") m_141) (fun _ h9 => h9) rfl dX9_faultOf_121 ?_
              obtain ⟨r9, hc9, h⟩ := fw_b1_e h
              refine fw_ret (va_runV (As := [.int (μ j0 9 1)]) (rest := []) ⟨hx, hb, hml, hown, hU⟩ (k_X7_faultOfRunning l hE (by decide) (μ j0 9 1) hc9) (cwV 1 hU (fw_gV m_594 m_595 m_596 m_2 m_597) rfl rfl rfl (by decide +kernel) ⟨(Nat.le_of_ble_eq_true rfl), (Nat.le_of_ble_eq_true rfl)⟩) ⟨fw_blind, fw_recv hK hP (fw_Vs (f := 0) (by decide) (by decide)) rfl rfl, fun U hU9 hW9 => ⟨rfl, fw_pre hK hP hSt hS U hU9 hW9⟩⟩ rfl rfl hl.1 rfl (lv_room (Nat.le_of_ble_eq_true rfl)) dX9_faultOf_124 ⟨Nat.zero_le _, Nat.zero_le _⟩) hS (fun H locs hP hS => ?_)
              exact W.aret (v := fw_fv E r9) hx hb hr (Or.inl ⟨_, rfl⟩) (Or.inr ⟨_, rfl⟩) (fw_er (mk := fw_fv E) h hP hS) hS.2.2 dX9_faultOf_127
            · rw [if_pos c7] at h
              refine lv_aload_n hx hb dX9_faultOf_98 rfl (lv_at hl 0 rfl) ?_
              refine va_get (D := fw_D E) (ci := 7) (v := .ref (fw_ad E 0 0)) (C := RX9) (T := TX9) (N := 9) hx hb hU inU9 hown hK (fw_at hP (fw_V0 (f := 10) (by decide) (by decide))) 0 rfl rfl 0 (by decide) (hU (Cond.fieldLink RX9 12 "LaundryService" "state" "LLaundryService$State;") m_193) (fun _ h9 => h9) rfl dX9_faultOf_99 ?_
              refine lv_aload_n hx hb dX9_faultOf_102 rfl (lv_at hl 1 rfl) ?_
              refine va_get (D := fw_D E) (ci := 2) (v := .int (μ j0 9 1)) (C := RX0) (T := TX0) (N := 4) hx hb hU inU0 hown hK (fw_at hP (fw_Vs (f := 9) (by decide) hj0)) 0 rfl rfl 1 (by decide) (hU (Cond.fieldLink RX9 403 "LaundryService$Command" "first" "I") m_141) (fun _ h9 => h9) rfl dX9_faultOf_103 ?_
              refine lv_iconst (v := (2 : Int32)) hx hb dX9_faultOf_106 (by decide) ?_
              refine lv_aload_n hx hb dX9_faultOf_107 rfl (lv_at hl 1 rfl) ?_
              refine va_get (D := fw_D E) (ci := 2) (v := .int (μ j0 9 2)) (C := RX0) (T := TX0) (N := 4) hx hb hU inU0 hown hK (fw_at hP (fw_Vs (f := 9) (by decide) hj0)) 0 rfl rfl 2 (by decide) (hU (Cond.fieldLink RX9 406 "LaundryService$Command" "second" "I") m_144) (fun _ h9 => h9) rfl dX9_faultOf_108 ?_
              refine lv_imul hx hb dX9_faultOf_111 ?_
              obtain ⟨r8, hc8, h⟩ := fw_b1_e h
              refine fw_ret (va_runV (As := [.int (μ j0 9 1), .int ((2 : Int32) * (μ j0 9 2))]) (rest := []) ⟨hx, hb, hml, hown, hU⟩ (k_X7_faultOfHeating l hE (by decide) (μ j0 9 1) ((2 : Int32) * (μ j0 9 2)) hc8) (cwV 2 hU (fw_gV m_579 m_580 m_581 m_2 m_582) rfl rfl rfl (by decide +kernel) ⟨(Nat.le_of_ble_eq_true rfl), (Nat.le_of_ble_eq_true rfl)⟩) ⟨fw_blind, fw_recv hK hP (fw_Vs (f := 0) (by decide) (by decide)) rfl rfl, fun U hU9 hW9 => ⟨rfl, fw_pre hK hP hSt hS U hU9 hW9⟩⟩ rfl rfl hl.1 rfl (lv_room (Nat.le_of_ble_eq_true rfl)) dX9_faultOf_112 ⟨Nat.zero_le _, Nat.zero_le _⟩) hS (fun H locs hP hS => ?_)
              exact W.aret (v := fw_fv E r8) hx hb hr (Or.inl ⟨_, rfl⟩) (Or.inr ⟨_, rfl⟩) (fw_er (mk := fw_fv E) h hP hS) hS.2.2 dX9_faultOf_115
          · rw [if_pos c5] at h
            refine lv_aload_n hx hb dX9_faultOf_76 rfl (lv_at hl 0 rfl) ?_
            refine va_get (D := fw_D E) (ci := 7) (v := .ref (fw_ad E 0 0)) (C := RX9) (T := TX9) (N := 9) hx hb hU inU9 hown hK (fw_at hP (fw_V0 (f := 10) (by decide) (by decide))) 0 rfl rfl 0 (by decide) (hU (Cond.fieldLink RX9 12 "LaundryService" "state" "LLaundryService$State;") m_193) (fun _ h9 => h9) rfl dX9_faultOf_77 ?_
            refine lv_aload_n hx hb dX9_faultOf_80 rfl (lv_at hl 1 rfl) ?_
            refine va_get (D := fw_D E) (ci := 2) (v := .int (μ j0 9 1)) (C := RX0) (T := TX0) (N := 4) hx hb hU inU0 hown hK (fw_at hP (fw_Vs (f := 9) (by decide) hj0)) 0 rfl rfl 1 (by decide) (hU (Cond.fieldLink RX9 403 "LaundryService$Command" "first" "I") m_141) (fun _ h9 => h9) rfl dX9_faultOf_81 ?_
            obtain ⟨r6, hc6, h⟩ := fw_b1_e h
            refine fw_ret (va_runV (As := [.int (μ j0 9 1)]) (rest := []) ⟨hx, hb, hml, hown, hU⟩ (k_X7_faultOfTakingOut l hE (by decide) (μ j0 9 1) hc6) (cwV 1 hU (fw_gV m_564 m_565 m_566 m_2 m_567) rfl rfl rfl (by decide +kernel) ⟨(Nat.le_of_ble_eq_true rfl), (Nat.le_of_ble_eq_true rfl)⟩) ⟨fw_blind, fw_recv hK hP (fw_Vs (f := 0) (by decide) (by decide)) rfl rfl, fun U hU9 hW9 => ⟨rfl, fw_pre hK hP hSt hS U hU9 hW9⟩⟩ rfl rfl hl.1 rfl (lv_room (Nat.le_of_ble_eq_true rfl)) dX9_faultOf_84 ⟨Nat.zero_le _, Nat.zero_le _⟩) hS (fun H locs hP hS => ?_)
            exact W.aret (v := fw_fv E r6) hx hb hr (Or.inl ⟨_, rfl⟩) (Or.inr ⟨_, rfl⟩) (fw_er (mk := fw_fv E) h hP hS) hS.2.2 dX9_faultOf_87
        · rw [if_pos c3] at h
          refine lv_aload_n hx hb dX9_faultOf_50 rfl (lv_at hl 0 rfl) ?_
          refine va_get (D := fw_D E) (ci := 7) (v := .ref (fw_ad E 0 0)) (C := RX9) (T := TX9) (N := 9) hx hb hU inU9 hown hK (fw_at hP (fw_V0 (f := 10) (by decide) (by decide))) 0 rfl rfl 0 (by decide) (hU (Cond.fieldLink RX9 12 "LaundryService" "state" "LLaundryService$State;") m_193) (fun _ h9 => h9) rfl dX9_faultOf_51 ?_
          refine lv_aload_n hx hb dX9_faultOf_54 rfl (lv_at hl 1 rfl) ?_
          refine va_get (D := fw_D E) (ci := 2) (v := .int (μ j0 9 1)) (C := RX0) (T := TX0) (N := 4) hx hb hU inU0 hown hK (fw_at hP (fw_Vs (f := 9) (by decide) hj0)) 0 rfl rfl 1 (by decide) (hU (Cond.fieldLink RX9 403 "LaundryService$Command" "first" "I") m_141) (fun _ h9 => h9) rfl dX9_faultOf_55 ?_
          refine lv_aload_n hx hb dX9_faultOf_58 rfl (lv_at hl 1 rfl) ?_
          refine va_get (D := fw_D E) (ci := 2) (v := .int (μ j0 9 2)) (C := RX0) (T := TX0) (N := 4) hx hb hU inU0 hown hK (fw_at hP (fw_Vs (f := 9) (by decide) hj0)) 0 rfl rfl 2 (by decide) (hU (Cond.fieldLink RX9 406 "LaundryService$Command" "second" "I") m_144) (fun _ h9 => h9) rfl dX9_faultOf_59 ?_
          obtain ⟨r4, hc4, h⟩ := fw_b1_e h
          refine fw_ret (va_runV (As := [.int (μ j0 9 1), .int (μ j0 9 2)]) (rest := []) ⟨hx, hb, hml, hown, hU⟩ (k_X7_faultOfLoading l hE (by decide) (μ j0 9 1) (μ j0 9 2) hc4) (cwV 2 hU (fw_gV m_540 m_541 m_542 m_2 m_543) rfl rfl rfl (by decide +kernel) ⟨(Nat.le_of_ble_eq_true rfl), (Nat.le_of_ble_eq_true rfl)⟩) ⟨fw_blind, fw_recv hK hP (fw_Vs (f := 0) (by decide) (by decide)) rfl rfl, fun U hU9 hW9 => ⟨rfl, fw_pre hK hP hSt hS U hU9 hW9⟩⟩ rfl rfl hl.1 rfl (lv_room (Nat.le_of_ble_eq_true rfl)) dX9_faultOf_62 ⟨Nat.zero_le _, Nat.zero_le _⟩) hS (fun H locs hP hS => ?_)
          exact W.aret (v := fw_fv E r4) hx hb hr (Or.inl ⟨_, rfl⟩) (Or.inr ⟨_, rfl⟩) (fw_er (mk := fw_fv E) h hP hS) hS.2.2 dX9_faultOf_65
      · rw [if_pos c2] at h
        exact J20  H locs ls h hP hS (lv_sub hl [0, 1] rfl)
  subst ha
  have hl := lv_entry ([.ref (fw_ad E 0 10), .ref (fw_ad E j0 9)]) (n := 2) (Nat.le_of_ble_eq_true rfl)
  rw [lg_entry_eq]
  generalize (lg_sl ([.ref (fw_ad E 0 10), .ref (fw_ad E j0 9)]) ++ List.replicate (2 - (lg_sl ([.ref (fw_ad E 0 10), .ref (fw_ad E j0 9)])).length) Slot.unset).toArray = ls at hl ⊢
  exact EN s.heap [] ls hP va_S.rf hl
set_option maxHeartbeats 4000000 in
set_option maxRecDepth 100000 in
theorem k_X9_carryOut (l : Launch) {E : fw_E} {o : Int64} {d : UInt64} (hE : fw_ok E) {μ μ' : fw_M} {j0 : Nat} (hj0 : j0 < 12) {r : Unit} (h : f_X9_carryOut μ j0 = some (μ', r)) : Met l yX9_carryOut (fw_ws yX9_carryOut cX9_carryOut 3 none) ({ frames := 4, cells := 0, slots := 0, locals := 93 } : Room) (va_Pc [.ref (fw_ad E 0 10), .ref (fw_ad E j0 9)] (fw_Pre E o d μ)) (fw_Q E o d none μ') 0 0 (fw_A E) := by
  refine Met.ofW (cc := cX9_carryOut) (maxL := 3) (ret := none) (by decide) rfl ?_
  intro p e s m args below meth c s₁ B hml hv
  obtain ⟨ha, hK, hP, hSt⟩ := hv
  have hx := B.exec
  have hb := B.bytes
  have hr := B.returns
  have hts := atoms_spec (ws := fw_ws yX9_carryOut cX9_carryOut 3 none) B.pre
  have hU : ∀ w ∈ fw_U, w.before args s = true := fun w hw => hts w (List.mem_cons_of_mem _ hw)
  have hown : s.vm.findClass RX9 = some m.cls := findClass_of_methodNamed B.named
  have hlocks := B.notSynchronized
  have J35 : ∀ (μ : fw_M) (s0 : Int32) (H : Heap) (locs : List Loc) (ls : Array Slot), f_X9_carryOut_J35 j0 μ s0 = some (μ', r) → fw_P E o d μ H → va_S (fw_A E) s.heap H locs → lv_has ls 3 [(0, .ref (fw_ad E 0 10)), (1, .ref (fw_ad E j0 9))] → W p l e (headSpec (fw_ws yX9_carryOut cX9_carryOut 3 none) ({ frames := 4, cells := 0, slots := 0, locals := 93 } : Room)).room s m args below meth c H locs 0 0 (MQ below (fw_Q E o d none μ') args s 0 0 (fw_A E)) (F0 m 35 ls [.int s0]) := by
    intro μ s0 H locs ls h hP hS hl
    unfold f_X9_carryOut_J35 at h
    refine lv_istore_n (lv' := [(2, .int s0), (0, .ref (fw_ad E 0 10)), (1, .ref (fw_ad E j0 9))]) hx hb dX9_carryOut_35 rfl hl (by decide) rfl (fun ls hl => ?_)
    refine lv_aload_n hx hb dX9_carryOut_36 rfl (lv_at hl 1 rfl) ?_
    refine va_get (D := fw_D E) (ci := 7) (v := .ref (fw_ad E 0 0)) (C := RX9) (T := TX9) (N := 9) hx hb hU inU9 hown hK (fw_at hP (fw_V0 (f := 10) (by decide) (by decide))) 0 rfl rfl 0 (by decide) (hU (Cond.fieldLink RX9 12 "LaundryService" "state" "LLaundryService$State;") m_193) (fun _ h9 => h9) rfl dX9_carryOut_37 ?_
    refine lv_aload_n hx hb dX9_carryOut_40 rfl (lv_at hl 2 rfl) ?_
    refine va_get (D := fw_D E) (ci := 2) (v := .int (μ j0 9 1)) (C := RX0) (T := TX0) (N := 4) hx hb hU inU0 hown hK (fw_at hP (fw_Vs (f := 9) (by decide) hj0)) 0 rfl rfl 1 (by decide) (hU (Cond.fieldLink RX9 403 "LaundryService$Command" "first" "I") m_141) (fun _ h9 => h9) rfl dX9_carryOut_41 ?_
    refine lv_iload_n hx hb dX9_carryOut_44 rfl (lv_at hl 0 rfl) ?_
    refine lv_aload_n hx hb dX9_carryOut_45 rfl (lv_at hl 2 rfl) ?_
    refine va_get (D := fw_D E) (ci := 2) (v := .int (μ j0 9 2)) (C := RX0) (T := TX0) (N := 4) hx hb hU inU0 hown hK (fw_at hP (fw_Vs (f := 9) (by decide) hj0)) 0 rfl rfl 2 (by decide) (hU (Cond.fieldLink RX9 406 "LaundryService$Command" "second" "I") m_144) (fun _ h9 => h9) rfl dX9_carryOut_46 ?_
    refine lv_aload_n hx hb dX9_carryOut_49 rfl (lv_at hl 2 rfl) ?_
    refine va_get (D := fw_D E) (ci := 2) (v := .int (μ j0 9 3)) (C := RX0) (T := TX0) (N := 4) hx hb hU inU0 hown hK (fw_at hP (fw_Vs (f := 9) (by decide) hj0)) 0 rfl rfl 3 (by decide) (hU (Cond.fieldLink RX9 409 "LaundryService$Command" "third" "I") m_147) (fun _ h9 => h9) rfl dX9_carryOut_50 ?_
    obtain ⟨μ12, r12, hc12, h⟩ := fw_b2_e h
    refine fw_ret (va_runV (As := [.int (μ j0 9 1), .int s0, .int (μ j0 9 2), .int (μ j0 9 3)]) (rest := []) ⟨hx, hb, hml, hown, hU⟩ (k_X7_addGarment l hE (by decide) (μ j0 9 1) s0 (μ j0 9 2) (μ j0 9 3) hc12) (cwV 4 hU (fw_gV m_528 m_529 m_530 m_2 m_531) rfl rfl rfl (by decide +kernel) ⟨(Nat.le_of_ble_eq_true rfl), (Nat.le_of_ble_eq_true rfl)⟩) ⟨fw_blind, fw_recv hK hP (fw_Vs (f := 0) (by decide) (by decide)) rfl rfl, fun U hU9 hW9 => ⟨rfl, fw_pre hK hP hSt hS U hU9 hW9⟩⟩ rfl rfl hl.1 rfl (lv_room (Nat.le_of_ble_eq_true rfl)) dX9_carryOut_53 ⟨Nat.zero_le _, Nat.zero_le _⟩) hS (fun H locs hP hS => ?_)
    refine lv_pop hx hb dX9_carryOut_56 rfl ?_
    refine lv_goto (tgt := 156) hx hb dX9_carryOut_57 (by decide) ?_
    exact W.vret hx hb hr (fw_ev h hP hS) hS.2.2 dX9_carryOut_156
  have J20 : ∀ (μ : fw_M) (H : Heap) (locs : List Loc) (ls : Array Slot), f_X9_carryOut_J20 j0 μ = some (μ', r) → fw_P E o d μ H → va_S (fw_A E) s.heap H locs → lv_has ls 3 [(0, .ref (fw_ad E 0 10)), (1, .ref (fw_ad E j0 9))] → W p l e (headSpec (fw_ws yX9_carryOut cX9_carryOut 3 none) ({ frames := 4, cells := 0, slots := 0, locals := 93 } : Room)).room s m args below meth c H locs 0 0 (MQ below (fw_Q E o d none μ') args s 0 0 (fw_A E)) (F0 m 20 ls []) := by
    intro μ H locs ls h hP hS hl
    unfold f_X9_carryOut_J20 at h
    refine lv_aload_n hx hb dX9_carryOut_20 rfl (lv_at hl 1 rfl) ?_
    refine va_get (D := fw_D E) (ci := 2) (v := fw_kv E (μ j0 9 0)) (C := RX0) (T := TX0) (N := 4) hx hb hU inU0 hown hK (fw_at hP (fw_Vs (f := 9) (by decide) hj0)) 0 rfl rfl 0 (by decide) (hU (Cond.fieldLink RX9 389 "LaundryService$Command" "keyword" "LLaundryService$Keyword;") m_138) (fun _ h9 => h9) rfl dX9_carryOut_21 ?_
    refine va_gets (v := fw_kv E (0 : Int32)) hx hb (fw_zk_SOCK hSt) hS hown (hU (Cond.fieldLink RX9 395 "LaundryService$Keyword" "SOCK" "LLaundryService$Keyword;") m_1022) (fun _ h9 => h9) dX9_carryOut_24 ?_
    obtain ⟨g11, h⟩ := fw_g_e h
    refine fw_acmp_nek hx hb hE g11 (by decide) (tgt := 34) dX9_carryOut_27 (by decide) (fun c11 => ?_) (fun c11 => ?_)
    · rw [if_neg c11] at h
      refine lv_iconst (v := (0 : Int32)) hx hb dX9_carryOut_34 (by decide) ?_
      exact J35 μ (0 : Int32) H locs ls h hP hS (lv_sub hl [0, 1] rfl)
    · rw [if_pos c11] at h
      refine lv_iconst (v := (1 : Int32)) hx hb dX9_carryOut_30 (by decide) ?_
      refine lv_goto (tgt := 35) hx hb dX9_carryOut_31 (by decide) ?_
      exact J35 μ (1 : Int32) H locs ls h hP hS (lv_sub hl [0, 1] rfl)
  have EN : ∀ (H : Heap) (locs : List Loc) (ls : Array Slot), fw_P E o d μ H → va_S (fw_A E) s.heap H locs → lv_has ls 3 [(0, .ref (fw_ad E 0 10)), (1, .ref (fw_ad E j0 9))] → W p l e (headSpec (fw_ws yX9_carryOut cX9_carryOut 3 none) ({ frames := 4, cells := 0, slots := 0, locals := 93 } : Room)).room s m args below meth c H locs 0 0 (MQ below (fw_Q E o d none μ') args s 0 0 (fw_A E)) (F0 m 0 ls []) := by
    intro H locs ls hP hS hl
    unfold f_X9_carryOut at h
    refine lv_aload_n hx hb dX9_carryOut_0 rfl (lv_at hl 1 rfl) ?_
    refine va_get (D := fw_D E) (ci := 2) (v := fw_kv E (μ j0 9 0)) (C := RX0) (T := TX0) (N := 4) hx hb hU inU0 hown hK (fw_at hP (fw_Vs (f := 9) (by decide) hj0)) 0 rfl rfl 0 (by decide) (hU (Cond.fieldLink RX9 389 "LaundryService$Command" "keyword" "LLaundryService$Keyword;") m_138) (fun _ h9 => h9) rfl dX9_carryOut_1 ?_
    refine va_gets (v := fw_kv E (0 : Int32)) hx hb (fw_zk_SOCK hSt) hS hown (hU (Cond.fieldLink RX9 395 "LaundryService$Keyword" "SOCK" "LLaundryService$Keyword;") m_1022) (fun _ h9 => h9) dX9_carryOut_4 ?_
    obtain ⟨g1, h⟩ := fw_g_e h
    refine fw_acmp_eqk hx hb hE g1 (by decide) (tgt := 20) dX9_carryOut_7 (by decide) (fun c1 => ?_) (fun c1 => ?_)
    · rw [if_pos c1] at h
      exact J20 μ H locs ls h hP hS (lv_sub hl [0, 1] rfl)
    · rw [if_neg c1] at h
      refine lv_aload_n hx hb dX9_carryOut_10 rfl (lv_at hl 1 rfl) ?_
      refine va_get (D := fw_D E) (ci := 2) (v := fw_kv E (μ j0 9 0)) (C := RX0) (T := TX0) (N := 4) hx hb hU inU0 hown hK (fw_at hP (fw_Vs (f := 9) (by decide) hj0)) 0 rfl rfl 0 (by decide) (hU (Cond.fieldLink RX9 389 "LaundryService$Command" "keyword" "LLaundryService$Keyword;") m_138) (fun _ h9 => h9) rfl dX9_carryOut_11 ?_
      refine va_gets (v := fw_kv E (1 : Int32)) hx hb (fw_zk_SHIRT hSt) hS hown (hU (Cond.fieldLink RX9 400 "LaundryService$Keyword" "SHIRT" "LLaundryService$Keyword;") m_1024) (fun _ h9 => h9) dX9_carryOut_14 ?_
      obtain ⟨g2, h⟩ := fw_g_e h
      refine fw_acmp_nek hx hb hE g2 (by decide) (tgt := 60) dX9_carryOut_17 (by decide) (fun c2 => ?_) (fun c2 => ?_)
      · rw [if_neg c2] at h
        refine lv_aload_n hx hb dX9_carryOut_60 rfl (lv_at hl 1 rfl) ?_
        refine va_get (D := fw_D E) (ci := 2) (v := fw_kv E (μ j0 9 0)) (C := RX0) (T := TX0) (N := 4) hx hb hU inU0 hown hK (fw_at hP (fw_Vs (f := 9) (by decide) hj0)) 0 rfl rfl 0 (by decide) (hU (Cond.fieldLink RX9 389 "LaundryService$Command" "keyword" "LLaundryService$Keyword;") m_138) (fun _ h9 => h9) rfl dX9_carryOut_61 ?_
        refine va_gets (v := fw_kv E (2 : Int32)) hx hb (fw_zk_LOAD hSt) hS hown (hU (Cond.fieldLink RX9 412 "LaundryService$Keyword" "LOAD" "LLaundryService$Keyword;") m_1026) (fun _ h9 => h9) dX9_carryOut_64 ?_
        obtain ⟨g3, h⟩ := fw_g_e h
        refine fw_acmp_nek hx hb hE g3 (by decide) (tgt := 88) dX9_carryOut_67 (by decide) (fun c3 => ?_) (fun c3 => ?_)
        · rw [if_neg c3] at h
          refine lv_aload_n hx hb dX9_carryOut_88 rfl (lv_at hl 1 rfl) ?_
          refine va_get (D := fw_D E) (ci := 2) (v := fw_kv E (μ j0 9 0)) (C := RX0) (T := TX0) (N := 4) hx hb hU inU0 hown hK (fw_at hP (fw_Vs (f := 9) (by decide) hj0)) 0 rfl rfl 0 (by decide) (hU (Cond.fieldLink RX9 389 "LaundryService$Command" "keyword" "LLaundryService$Keyword;") m_138) (fun _ h9 => h9) rfl dX9_carryOut_89 ?_
          refine va_gets (v := fw_kv E (3 : Int32)) hx hb (fw_zk_OUT hSt) hS hown (hU (Cond.fieldLink RX9 415 "LaundryService$Keyword" "OUT" "LLaundryService$Keyword;") m_1028) (fun _ h9 => h9) dX9_carryOut_92 ?_
          obtain ⟨g5, h⟩ := fw_g_e h
          refine fw_acmp_nek hx hb hE g5 (by decide) (tgt := 113) dX9_carryOut_95 (by decide) (fun c5 => ?_) (fun c5 => ?_)
          · rw [if_neg c5] at h
            refine lv_aload_n hx hb dX9_carryOut_113 rfl (lv_at hl 1 rfl) ?_
            refine va_get (D := fw_D E) (ci := 2) (v := fw_kv E (μ j0 9 0)) (C := RX0) (T := TX0) (N := 4) hx hb hU inU0 hown hK (fw_at hP (fw_Vs (f := 9) (by decide) hj0)) 0 rfl rfl 0 (by decide) (hU (Cond.fieldLink RX9 389 "LaundryService$Command" "keyword" "LLaundryService$Keyword;") m_138) (fun _ h9 => h9) rfl dX9_carryOut_114 ?_
            refine va_gets (v := fw_kv E (4 : Int32)) hx hb (fw_zk_HEAT hSt) hS hown (hU (Cond.fieldLink RX9 418 "LaundryService$Keyword" "HEAT" "LLaundryService$Keyword;") m_1030) (fun _ h9 => h9) dX9_carryOut_117 ?_
            obtain ⟨g7, h⟩ := fw_g_e h
            refine fw_acmp_nek hx hb hE g7 (by decide) (tgt := 144) dX9_carryOut_120 (by decide) (fun c7 => ?_) (fun c7 => ?_)
            · rw [if_neg c7] at h
              refine lv_aload_n hx hb dX9_carryOut_144 rfl (lv_at hl 0 rfl) ?_
              refine va_get (D := fw_D E) (ci := 7) (v := .ref (fw_ad E 0 0)) (C := RX9) (T := TX9) (N := 9) hx hb hU inU9 hown hK (fw_at hP (fw_V0 (f := 10) (by decide) (by decide))) 0 rfl rfl 0 (by decide) (hU (Cond.fieldLink RX9 12 "LaundryService" "state" "LLaundryService$State;") m_193) (fun _ h9 => h9) rfl dX9_carryOut_145 ?_
              refine lv_aload_n hx hb dX9_carryOut_148 rfl (lv_at hl 1 rfl) ?_
              refine va_get (D := fw_D E) (ci := 2) (v := .int (μ j0 9 1)) (C := RX0) (T := TX0) (N := 4) hx hb hU inU0 hown hK (fw_at hP (fw_Vs (f := 9) (by decide) hj0)) 0 rfl rfl 1 (by decide) (hU (Cond.fieldLink RX9 403 "LaundryService$Command" "first" "I") m_141) (fun _ h9 => h9) rfl dX9_carryOut_149 ?_
              obtain ⟨μ10, r10, hc10, h⟩ := fw_b2_e h
              refine fw_ret (va_runS (As := [.ref (fw_ad E 0 0), .int (μ j0 9 1)]) (rest := []) ⟨hx, hb, hml, hown, hU⟩ (k_X8_wash l hE (by decide) (μ j0 9 1) hc10) (va_cwS 2 hU (fw_gS m_598 m_599 m_23 m_600) rfl rfl rfl (by decide +kernel) ⟨(Nat.le_of_ble_eq_true rfl), (Nat.le_of_ble_eq_true rfl)⟩) ⟨fw_blind, fun U hU9 hW9 => ⟨rfl, fw_pre hK hP hSt hS U hU9 hW9⟩⟩ rfl rfl hl.1 rfl (lv_room (Nat.le_of_ble_eq_true rfl)) dX9_carryOut_152 ⟨Nat.zero_le _, Nat.zero_le _⟩) hS (fun H locs hP hS => ?_)
              refine lv_pop hx hb dX9_carryOut_155 rfl ?_
              exact W.vret hx hb hr (fw_ev h hP hS) hS.2.2 dX9_carryOut_156
            · rw [if_pos c7] at h
              refine lv_aload_n hx hb dX9_carryOut_123 rfl (lv_at hl 0 rfl) ?_
              refine va_get (D := fw_D E) (ci := 7) (v := .ref (fw_ad E 0 0)) (C := RX9) (T := TX9) (N := 9) hx hb hU inU9 hown hK (fw_at hP (fw_V0 (f := 10) (by decide) (by decide))) 0 rfl rfl 0 (by decide) (hU (Cond.fieldLink RX9 12 "LaundryService" "state" "LLaundryService$State;") m_193) (fun _ h9 => h9) rfl dX9_carryOut_124 ?_
              refine va_get (D := fw_D E) (ci := 6) (v := .ref (fw_ad E 0 7)) (C := RX7) (T := TX7) (N := 10) hx hb hU inU7 hown hK (fw_at hP (fw_Vs (f := 0) (by decide) (by decide))) 0 rfl rfl 7 (by decide) (hU (Cond.fieldLink RX9 96 "LaundryService$State" "halves" "[I") m_71) (fun _ h9 => h9) rfl dX9_carryOut_127 ?_
              refine lv_aload_n hx hb dX9_carryOut_130 rfl (lv_at hl 1 rfl) ?_
              refine va_get (D := fw_D E) (ci := 2) (v := .int (μ j0 9 1)) (C := RX0) (T := TX0) (N := 4) hx hb hU inU0 hown hK (fw_at hP (fw_Vs (f := 9) (by decide) hj0)) 0 rfl rfl 1 (by decide) (hU (Cond.fieldLink RX9 403 "LaundryService$Command" "first" "I") m_141) (fun _ h9 => h9) rfl dX9_carryOut_131 ?_
              refine lv_iconst (v := (2 : Int32)) hx hb dX9_carryOut_134 (by decide) ?_
              refine lv_aload_n hx hb dX9_carryOut_135 rfl (lv_at hl 1 rfl) ?_
              refine va_get (D := fw_D E) (ci := 2) (v := .int (μ j0 9 2)) (C := RX0) (T := TX0) (N := 4) hx hb hU inU0 hown hK (fw_at hP (fw_Vs (f := 9) (by decide) hj0)) 0 rfl rfl 2 (by decide) (hU (Cond.fieldLink RX9 406 "LaundryService$Command" "second" "I") m_144) (fun _ h9 => h9) rfl dX9_carryOut_136 ?_
              refine lv_imul hx hb dX9_carryOut_139 ?_
              obtain ⟨g8, h⟩ := fw_g_e h
              refine fw_iast (n := 2) hx hb hK hP hE hS (fw_Vs (f := 7) (by decide) (by decide)) (fun _ => rfl) (fw_in_e g8) dX9_carryOut_140 (fun H locs hP hS => ?_)
              obtain ⟨μ9, eμ9, h⟩ := fw_l_e h
              rw [← eμ9] at hP
              refine lv_goto (tgt := 156) hx hb dX9_carryOut_141 (by decide) ?_
              exact W.vret hx hb hr (fw_ev h hP hS) hS.2.2 dX9_carryOut_156
          · rw [if_pos c5] at h
            refine lv_aload_n hx hb dX9_carryOut_98 rfl (lv_at hl 0 rfl) ?_
            refine va_get (D := fw_D E) (ci := 7) (v := .ref (fw_ad E 0 0)) (C := RX9) (T := TX9) (N := 9) hx hb hU inU9 hown hK (fw_at hP (fw_V0 (f := 10) (by decide) (by decide))) 0 rfl rfl 0 (by decide) (hU (Cond.fieldLink RX9 12 "LaundryService" "state" "LLaundryService$State;") m_193) (fun _ h9 => h9) rfl dX9_carryOut_99 ?_
            refine lv_aload_n hx hb dX9_carryOut_102 rfl (lv_at hl 1 rfl) ?_
            refine va_get (D := fw_D E) (ci := 2) (v := .int (μ j0 9 1)) (C := RX0) (T := TX0) (N := 4) hx hb hU inU0 hown hK (fw_at hP (fw_Vs (f := 9) (by decide) hj0)) 0 rfl rfl 1 (by decide) (hU (Cond.fieldLink RX9 403 "LaundryService$Command" "first" "I") m_141) (fun _ h9 => h9) rfl dX9_carryOut_103 ?_
            obtain ⟨μ6, r6, hc6, h⟩ := fw_b2_e h
            refine fw_ret (va_runV (As := [.int (μ j0 9 1)]) (rest := []) ⟨hx, hb, hml, hown, hU⟩ (k_X7_putBackIntoBag l hE (by decide) (μ j0 9 1) hc6) (cwV 1 hU (fw_gV m_568 m_569 m_570 m_2 m_571) rfl rfl rfl (by decide +kernel) ⟨(Nat.le_of_ble_eq_true rfl), (Nat.le_of_ble_eq_true rfl)⟩) ⟨fw_blind, fw_recv hK hP (fw_Vs (f := 0) (by decide) (by decide)) rfl rfl, fun U hU9 hW9 => ⟨rfl, fw_pre hK hP hSt hS U hU9 hW9⟩⟩ rfl rfl hl.1 rfl (lv_room (Nat.le_of_ble_eq_true rfl)) dX9_carryOut_106 ⟨Nat.zero_le _, Nat.zero_le _⟩) hS (fun H locs hP hS => ?_)
            refine lv_pop hx hb dX9_carryOut_109 rfl ?_
            refine lv_goto (tgt := 156) hx hb dX9_carryOut_110 (by decide) ?_
            exact W.vret hx hb hr (fw_ev h hP hS) hS.2.2 dX9_carryOut_156
        · rw [if_pos c3] at h
          refine lv_aload_n hx hb dX9_carryOut_70 rfl (lv_at hl 0 rfl) ?_
          refine va_get (D := fw_D E) (ci := 7) (v := .ref (fw_ad E 0 0)) (C := RX9) (T := TX9) (N := 9) hx hb hU inU9 hown hK (fw_at hP (fw_V0 (f := 10) (by decide) (by decide))) 0 rfl rfl 0 (by decide) (hU (Cond.fieldLink RX9 12 "LaundryService" "state" "LLaundryService$State;") m_193) (fun _ h9 => h9) rfl dX9_carryOut_71 ?_
          refine lv_aload_n hx hb dX9_carryOut_74 rfl (lv_at hl 1 rfl) ?_
          refine va_get (D := fw_D E) (ci := 2) (v := .int (μ j0 9 1)) (C := RX0) (T := TX0) (N := 4) hx hb hU inU0 hown hK (fw_at hP (fw_Vs (f := 9) (by decide) hj0)) 0 rfl rfl 1 (by decide) (hU (Cond.fieldLink RX9 403 "LaundryService$Command" "first" "I") m_141) (fun _ h9 => h9) rfl dX9_carryOut_75 ?_
          refine lv_aload_n hx hb dX9_carryOut_78 rfl (lv_at hl 1 rfl) ?_
          refine va_get (D := fw_D E) (ci := 2) (v := .int (μ j0 9 2)) (C := RX0) (T := TX0) (N := 4) hx hb hU inU0 hown hK (fw_at hP (fw_Vs (f := 9) (by decide) hj0)) 0 rfl rfl 2 (by decide) (hU (Cond.fieldLink RX9 406 "LaundryService$Command" "second" "I") m_144) (fun _ h9 => h9) rfl dX9_carryOut_79 ?_
          obtain ⟨μ4, r4, hc4, h⟩ := fw_b2_e h
          refine fw_retv (va_runV (As := [.int (μ j0 9 1), .int (μ j0 9 2)]) (rest := []) ⟨hx, hb, hml, hown, hU⟩ (k_X7_putIntoMachine l hE (by decide) (μ j0 9 1) (μ j0 9 2) hc4) (cwV 2 hU (fw_gV m_553 m_554 m_555 m_2 m_556) rfl rfl rfl (by decide +kernel) ⟨(Nat.le_of_ble_eq_true rfl), (Nat.le_of_ble_eq_true rfl)⟩) ⟨fw_blind, fw_recv hK hP (fw_Vs (f := 0) (by decide) (by decide)) rfl rfl, fun U hU9 hW9 => ⟨rfl, fw_pre hK hP hSt hS U hU9 hW9⟩⟩ rfl rfl hl.1 rfl (lv_room (Nat.le_of_ble_eq_true rfl)) dX9_carryOut_82 ⟨Nat.zero_le _, Nat.zero_le _⟩) hS (fun H locs hP hS => ?_)
          refine lv_goto (tgt := 156) hx hb dX9_carryOut_85 (by decide) ?_
          exact W.vret hx hb hr (fw_ev h hP hS) hS.2.2 dX9_carryOut_156
      · rw [if_pos c2] at h
        exact J20 μ H locs ls h hP hS (lv_sub hl [0, 1] rfl)
  subst ha
  have hl := lv_entry ([.ref (fw_ad E 0 10), .ref (fw_ad E j0 9)]) (n := 3) (Nat.le_of_ble_eq_true rfl)
  rw [lg_entry_eq]
  generalize (lg_sl ([.ref (fw_ad E 0 10), .ref (fw_ad E j0 9)]) ++ List.replicate (3 - (lg_sl ([.ref (fw_ad E 0 10), .ref (fw_ad E j0 9)])).length) Slot.unset).toArray = ls at hl ⊢
  exact EN s.heap [] ls hP va_S.rf hl
set_option maxHeartbeats 4000000 in
set_option maxRecDepth 100000 in
theorem k_X9_carryOutUntilFault (l : Launch) {E : fw_E} {o : Int64} {d : UInt64} (hE : fw_ok E) {μ μ' : fw_M} {r : Int32} (h : f_X9_carryOutUntilFault μ = some (μ', r)) : Met l yX9_carryOutUntilFault (fw_ws yX9_carryOutUntilFault cX9_carryOutUntilFault 3 (some .int)) ({ frames := 5, cells := 0, slots := 0, locals := 115 } : Room) (va_Pc [.ref (fw_ad E 0 10)] (fw_Pre E o d μ)) (fw_Q E o d (some (.int r)) μ') 0 0 (fw_A E) := by
  refine Met.ofW (cc := cX9_carryOutUntilFault) (maxL := 3) (ret := (some .int)) (by decide) rfl ?_
  intro p e s m args below meth c s₁ B hml hv
  obtain ⟨ha, hK, hP, hSt⟩ := hv
  have hx := B.exec
  have hb := B.bytes
  have hr := B.returns
  have hts := atoms_spec (ws := fw_ws yX9_carryOutUntilFault cX9_carryOutUntilFault 3 (some .int)) B.pre
  have hU : ∀ w ∈ fw_U, w.before args s = true := fun w hw => hts w (List.mem_cons_of_mem _ hw)
  have hown : s.vm.findClass RX9 = some m.cls := findClass_of_methodNamed B.named
  have hlocks := B.notSynchronized
  have L2 : ∀ (n : Nat) (μ : fw_M) (x1 : Int32) (H : Heap) (locs : List Loc) (ls : Array Slot), f_X9_carryOutUntilFault_L2 n μ x1 = some (μ', r) → fw_P E o d μ H → va_S (fw_A E) s.heap H locs → lv_has ls 3 [(0, .ref (fw_ad E 0 10)), (1, .int x1)] → W p l e (headSpec (fw_ws yX9_carryOutUntilFault cX9_carryOutUntilFault 3 (some .int)) ({ frames := 5, cells := 0, slots := 0, locals := 115 } : Room)).room s m args below meth c H locs 0 0 (MQ below (fw_Q E o d (some (.int r)) μ') args s 0 0 (fw_A E)) (F0 m 2 ls []) := by
    intro n2
    induction n2 with
    | zero => intro μ x1 H locs ls h; rw [f_X9_carryOutUntilFault_L2] at h; cases h
    | succ n2 ih2 =>
      intro μ x1 H locs ls h hP hS hl
      rw [f_X9_carryOutUntilFault_L2] at h
      refine lv_iload_n hx hb dX9_carryOutUntilFault_2 rfl (lv_at hl 1 rfl) ?_
      refine lv_aload_n hx hb dX9_carryOutUntilFault_3 rfl (lv_at hl 0 rfl) ?_
      refine va_get (D := fw_D E) (ci := 7) (v := .ref (fw_ad E 0 13)) (C := RX9) (T := TX9) (N := 9) hx hb hU inU9 hown hK (fw_at hP (fw_V0 (f := 10) (by decide) (by decide))) 0 rfl rfl 5 (by decide) (hU (Cond.fieldLink RX9 36 "LaundryService" "input" "LLaundryService$CommandText;") m_198) (fun _ h9 => h9) rfl dX9_carryOutUntilFault_4 ?_
      refine va_get (D := fw_D E) (ci := 3) (v := .int (μ 0 13 4)) (C := RX1) (T := TX1) (N := 5) hx hb hU inU1 hown hK (fw_at hP (fw_V0 (f := 13) (by decide) (by decide))) 0 rfl rfl 4 (by decide) (hU (Cond.fieldLink RX9 279 "LaundryService$CommandText" "commandCount" "I") m_166) (fun _ h9 => h9) rfl dX9_carryOutUntilFault_7 ?_
      refine lv_icmp_ge (tgt := 47) hx hb dX9_carryOutUntilFault_10 (by decide) (fun c1 => ?_) (fun c1 => ?_)
      · rw [if_pos c1] at h
        refine lv_aload_n hx hb dX9_carryOutUntilFault_47 rfl (lv_at hl 0 rfl) ?_
        refine va_get (D := fw_D E) (ci := 7) (v := .ref (fw_ad E 0 13)) (C := RX9) (T := TX9) (N := 9) hx hb hU inU9 hown hK (fw_at hP (fw_V0 (f := 10) (by decide) (by decide))) 0 rfl rfl 5 (by decide) (hU (Cond.fieldLink RX9 36 "LaundryService" "input" "LLaundryService$CommandText;") m_198) (fun _ h9 => h9) rfl dX9_carryOutUntilFault_48 ?_
        refine va_get (D := fw_D E) (ci := 3) (v := .int (μ 0 13 4)) (C := RX1) (T := TX1) (N := 5) hx hb hU inU1 hown hK (fw_at hP (fw_V0 (f := 13) (by decide) (by decide))) 0 rfl rfl 4 (by decide) (hU (Cond.fieldLink RX9 279 "LaundryService$CommandText" "commandCount" "I") m_166) (fun _ h9 => h9) rfl dX9_carryOutUntilFault_51 ?_
        exact W.iret (v := (μ 0 13 4)) hx hb hr (fw_ew (mk := Value.int) h hP hS) hS.2.2 dX9_carryOutUntilFault_54
      · rw [if_neg c1] at h
        refine lv_aload_n hx hb dX9_carryOutUntilFault_13 rfl (lv_at hl 0 rfl) ?_
        refine va_get (D := fw_D E) (ci := 7) (v := .ref (fw_ad E 0 13)) (C := RX9) (T := TX9) (N := 9) hx hb hU inU9 hown hK (fw_at hP (fw_V0 (f := 10) (by decide) (by decide))) 0 rfl rfl 5 (by decide) (hU (Cond.fieldLink RX9 36 "LaundryService" "input" "LLaundryService$CommandText;") m_198) (fun _ h9 => h9) rfl dX9_carryOutUntilFault_14 ?_
        refine va_get (D := fw_D E) (ci := 3) (v := .ref (fw_ad E 0 15)) (C := RX1) (T := TX1) (N := 5) hx hb hU inU1 hown hK (fw_at hP (fw_V0 (f := 13) (by decide) (by decide))) 0 rfl rfl 3 (by decide) (hU (Cond.fieldLink RX9 374 "LaundryService$CommandText" "commands" "[LLaundryService$Command;") m_164) (fun _ h9 => h9) rfl dX9_carryOutUntilFault_17 ?_
        refine lv_iload_n hx hb dX9_carryOutUntilFault_20 rfl (lv_at hl 1 rfl) ?_
        obtain ⟨g2, h⟩ := fw_g_e h
        refine fw_cmdld hx hb hK hP (fw_in_e g2) dX9_carryOutUntilFault_21 ?_
        refine lv_astore_n (lv' := [(2, .ref (fw_ad E (x1.toNatClampNeg) 9)), (0, .ref (fw_ad E 0 10)), (1, .int x1)]) hx hb dX9_carryOutUntilFault_22 rfl hl (by decide) rfl (fun ls hl => ?_)
        refine lv_aload_n hx hb dX9_carryOutUntilFault_23 rfl (lv_at hl 1 rfl) ?_
        refine lv_aload_n hx hb dX9_carryOutUntilFault_24 rfl (lv_at hl 0 rfl) ?_
        obtain ⟨r3, hc3, h⟩ := fw_b1_e h
        refine fw_ret (va_runV (As := [.ref (fw_ad E (x1.toNatClampNeg) 9)]) (rest := []) ⟨hx, hb, hml, hown, hU⟩ (k_X9_faultOf l hE (fw_in_lt g2) hc3) (cwV 1 hU (fw_gV m_1018 m_1020 ms_8 m_1 m_1021) rfl rfl rfl (by decide +kernel) ⟨(Nat.le_of_ble_eq_true rfl), (Nat.le_of_ble_eq_true rfl)⟩) ⟨fw_blind, fw_recv hK hP (fw_V0 (f := 10) (by decide) (by decide)) rfl rfl, fun U hU9 hW9 => ⟨rfl, fw_pre hK hP hSt hS U hU9 hW9⟩⟩ rfl rfl hl.1 rfl (lv_room (Nat.le_of_ble_eq_true rfl)) dX9_carryOutUntilFault_25 ⟨Nat.zero_le _, Nat.zero_le _⟩) hS (fun H locs hP hS => ?_)
        refine va_gets (v := fw_fv E (0 : Int32)) hx hb (fw_zf_NONE hSt) hS hown (hU (Cond.fieldLink RX9 382 "LaundryService$Fault" "NONE" "LLaundryService$Fault;") m_1032) (fun _ h9 => h9) dX9_carryOutUntilFault_28 ?_
        obtain ⟨g4, h⟩ := fw_g_e h
        refine fw_acmp_eqf hx hb hE g4 (by decide) (tgt := 36) dX9_carryOutUntilFault_31 (by decide) (fun c4 => ?_) (fun c4 => ?_)
        · rw [if_pos c4] at h
          refine lv_aload_n hx hb dX9_carryOutUntilFault_36 rfl (lv_at hl 1 rfl) ?_
          refine lv_aload_n hx hb dX9_carryOutUntilFault_37 rfl (lv_at hl 0 rfl) ?_
          obtain ⟨μ5, r5, hc5, h⟩ := fw_b2_e h
          refine fw_retv (va_runV (As := [.ref (fw_ad E (x1.toNatClampNeg) 9)]) (rest := []) ⟨hx, hb, hml, hown, hU⟩ (k_X9_carryOut l hE (fw_in_lt g2) hc5) (cwV 1 hU (fw_gV m_1033 m_1035 ms_9 m_1 m_1036) rfl rfl rfl (by decide +kernel) ⟨(Nat.le_of_ble_eq_true rfl), (Nat.le_of_ble_eq_true rfl)⟩) ⟨fw_blind, fw_recv hK hP (fw_V0 (f := 10) (by decide) (by decide)) rfl rfl, fun U hU9 hW9 => ⟨rfl, fw_pre hK hP hSt hS U hU9 hW9⟩⟩ rfl rfl hl.1 rfl (lv_room (Nat.le_of_ble_eq_true rfl)) dX9_carryOutUntilFault_38 ⟨Nat.zero_le _, Nat.zero_le _⟩) hS (fun H locs hP hS => ?_)
          refine lv_iinc (v := (x1 + (1 : Int32))) (lv' := [(1, .int (x1 + (1 : Int32))), (2, .ref (fw_ad E (x1.toNatClampNeg) 9)), (0, .ref (fw_ad E 0 10))]) hx hb dX9_carryOutUntilFault_41 hl (k := 2) rfl rfl (by decide) rfl (fun ls hl => ?_)
          refine lv_goto (tgt := 2) hx hb dX9_carryOutUntilFault_44 (by decide) ?_
          exact ih2 μ5 (x1 + (1 : Int32)) H locs ls h hP hS (lv_sub hl [2, 0] rfl)
        · rw [if_neg c4] at h
          refine lv_iload_n hx hb dX9_carryOutUntilFault_34 rfl (lv_at hl 2 rfl) ?_
          exact W.iret (v := x1) hx hb hr (fw_ew (mk := Value.int) h hP hS) hS.2.2 dX9_carryOutUntilFault_35
  have EN : ∀ (H : Heap) (locs : List Loc) (ls : Array Slot), fw_P E o d μ H → va_S (fw_A E) s.heap H locs → lv_has ls 3 [(0, .ref (fw_ad E 0 10))] → W p l e (headSpec (fw_ws yX9_carryOutUntilFault cX9_carryOutUntilFault 3 (some .int)) ({ frames := 5, cells := 0, slots := 0, locals := 115 } : Room)).room s m args below meth c H locs 0 0 (MQ below (fw_Q E o d (some (.int r)) μ') args s 0 0 (fw_A E)) (F0 m 0 ls []) := by
    intro H locs ls hP hS hl
    unfold f_X9_carryOutUntilFault at h
    refine lv_iconst (v := (0 : Int32)) hx hb dX9_carryOutUntilFault_0 (by decide) ?_
    refine lv_istore_n (lv' := [(1, .int (0 : Int32)), (0, .ref (fw_ad E 0 10))]) hx hb dX9_carryOutUntilFault_1 rfl hl (by decide) rfl (fun ls hl => ?_)
    exact L2 1000 μ (0 : Int32) H locs ls h hP hS (lv_sub hl [1, 0] rfl)
  subst ha
  have hl := lv_entry ([.ref (fw_ad E 0 10)]) (n := 3) (Nat.le_of_ble_eq_true rfl)
  rw [lg_entry_eq]
  generalize (lg_sl ([.ref (fw_ad E 0 10)]) ++ List.replicate (3 - (lg_sl ([.ref (fw_ad E 0 10)])).length) Slot.unset).toArray = ls at hl ⊢
  exact EN s.heap [] ls hP va_S.rf hl
set_option maxHeartbeats 4000000 in
set_option maxRecDepth 100000 in
theorem k_X9_describe (l : Launch) {E : fw_E} {o : Int64} {d : UInt64} (hE : fw_ok E) {μ μ' : fw_M} (x1 : Int32) {r : Unit} (h : f_X9_describe μ x1 = some (μ', r)) : Met l yX9_describe (fw_ws yX9_describe cX9_describe 4 none) ({ frames := 2, cells := 0, slots := 0, locals := 41 } : Room) (va_Pc [.ref (fw_ad E 0 10), .int x1] (fw_Pre E o d μ)) (fw_Q E o d none μ') 0 0 (fw_A E) := by
  refine Met.ofW (cc := cX9_describe) (maxL := 4) (ret := none) (by decide) rfl ?_
  intro p e s m args below meth c s₁ B hml hv
  obtain ⟨ha, hK, hP, hSt⟩ := hv
  have hx := B.exec
  have hb := B.bytes
  have hr := B.returns
  have hts := atoms_spec (ws := fw_ws yX9_describe cX9_describe 4 none) B.pre
  have hU : ∀ w ∈ fw_U, w.before args s = true := fun w hw => hts w (List.mem_cons_of_mem _ hw)
  have hown : s.vm.findClass RX9 = some m.cls := findClass_of_methodNamed B.named
  have hlocks := B.notSynchronized
  have L76 : ∀ (n : Nat) (μ : fw_M) (x2 : Int32) (x3 : Int32) (H : Heap) (locs : List Loc) (ls : Array Slot), f_X9_describe_L76 n μ x2 x3 = some (μ', r) → fw_P E o d μ H → va_S (fw_A E) s.heap H locs → lv_has ls 4 [(0, .ref (fw_ad E 0 10)), (2, .int x2), (3, .int x3)] → W p l e (headSpec (fw_ws yX9_describe cX9_describe 4 none) ({ frames := 2, cells := 0, slots := 0, locals := 41 } : Room)).room s m args below meth c H locs 0 0 (MQ below (fw_Q E o d none μ') args s 0 0 (fw_A E)) (F0 m 76 ls []) := by
    intro n76
    induction n76 with
    | zero => intro μ x2 x3 H locs ls h; rw [f_X9_describe_L76] at h; cases h
    | succ n76 ih76 =>
      intro μ x2 x3 H locs ls h hP hS hl
      rw [f_X9_describe_L76] at h
      refine lv_iload_n hx hb dX9_describe_76 rfl (lv_at hl 2 rfl) ?_
      refine lv_iload_n hx hb dX9_describe_77 rfl (lv_at hl 1 rfl) ?_
      refine lv_icmp_ge (tgt := 96) hx hb dX9_describe_78 (by decide) (fun c9 => ?_) (fun c9 => ?_)
      · rw [if_pos c9] at h
        exact W.vret hx hb hr (fw_ev h hP hS) hS.2.2 dX9_describe_96
      · rw [if_neg c9] at h
        refine lv_aload_n hx hb dX9_describe_81 rfl (lv_at hl 0 rfl) ?_
        refine va_get (D := fw_D E) (ci := 7) (v := .ref (fw_ad E 0 16)) (C := RX9) (T := TX9) (N := 9) hx hb hU inU9 hown hK (fw_at hP (fw_V0 (f := 10) (by decide) (by decide))) 0 rfl rfl 6 (by decide) (hU (Cond.fieldLink RX9 43 "LaundryService" "output" "LLaundryService$Output;") m_199) (fun _ h9 => h9) rfl dX9_describe_82 ?_
        refine lv_bipush (v := (42 : Int32)) hx hb dX9_describe_85 (by decide) ?_
        obtain ⟨μ10, r10, hc10, h⟩ := fw_b2_e h
        refine fw_retv (va_runV (As := [.int (42 : Int32)]) (rest := []) ⟨hx, hb, hml, hown, hU⟩ (k_X5_append l hE (42 : Int32) hc10) (cwV 1 hU (fw_gV m_1075 m_1076 m_1077 m_8 m_1078) rfl rfl rfl (by decide +kernel) ⟨(Nat.le_of_ble_eq_true rfl), (Nat.le_of_ble_eq_true rfl)⟩) ⟨fw_blind, fw_recv hK hP (fw_V0 (f := 16) (by decide) (by decide)) rfl rfl, fun U hU9 hW9 => ⟨rfl, fw_pre hK hP hSt hS U hU9 hW9⟩⟩ rfl rfl hl.1 rfl (lv_room (Nat.le_of_ble_eq_true rfl)) dX9_describe_87 ⟨Nat.zero_le _, Nat.zero_le _⟩) hS (fun H locs hP hS => ?_)
        refine lv_iinc (v := (x3 + (1 : Int32))) (lv' := [(3, .int (x3 + (1 : Int32))), (0, .ref (fw_ad E 0 10)), (2, .int x2)]) hx hb dX9_describe_90 hl (k := 2) rfl rfl (by decide) rfl (fun ls hl => ?_)
        refine lv_goto (tgt := 76) hx hb dX9_describe_93 (by decide) ?_
        exact ih76 μ10 x2 (x3 + (1 : Int32)) H locs ls h hP hS (lv_sub hl [1, 2, 0] rfl)
  have J42 : ∀ (μ : fw_M) (x1 : Int32) (s1 : Int32) (H : Heap) (locs : List Loc) (ls : Array Slot), f_X9_describe_J42 μ x1 s1 = some (μ', r) → fw_P E o d μ H → va_S (fw_A E) s.heap H locs → lv_has ls 4 [(0, .ref (fw_ad E 0 10)), (1, .int x1)] → W p l e (headSpec (fw_ws yX9_describe cX9_describe 4 none) ({ frames := 2, cells := 0, slots := 0, locals := 41 } : Room)).room s m args below meth c H locs 0 0 (MQ below (fw_Q E o d none μ') args s 0 0 (fw_A E)) (F0 m 42 ls [.int s1, .ref (fw_ad E 0 16)]) := by
    intro μ x1 s1 H locs ls h hP hS hl
    unfold f_X9_describe_J42 at h
    obtain ⟨μ5, r5, hc5, h⟩ := fw_b2_e h
    refine fw_retv (va_runV (As := [.int s1]) (rest := []) ⟨hx, hb, hml, hown, hU⟩ (k_X5_append l hE s1 hc5) (cwV 1 hU (fw_gV m_1075 m_1076 m_1077 m_8 m_1078) rfl rfl rfl (by decide +kernel) ⟨(Nat.le_of_ble_eq_true rfl), (Nat.le_of_ble_eq_true rfl)⟩) ⟨fw_blind, fw_recv hK hP (fw_V0 (f := 16) (by decide) (by decide)) rfl rfl, fun U hU9 hW9 => ⟨rfl, fw_pre hK hP hSt hS U hU9 hW9⟩⟩ rfl rfl hl.1 rfl (lv_room (Nat.le_of_ble_eq_true rfl)) dX9_describe_42 ⟨Nat.zero_le _, Nat.zero_le _⟩) hS (fun H locs hP hS => ?_)
    refine lv_aload_n hx hb dX9_describe_45 rfl (lv_at hl 0 rfl) ?_
    refine va_get (D := fw_D E) (ci := 7) (v := .ref (fw_ad E 0 16)) (C := RX9) (T := TX9) (N := 9) hx hb hU inU9 hown hK (fw_at hP (fw_V0 (f := 10) (by decide) (by decide))) 0 rfl rfl 6 (by decide) (hU (Cond.fieldLink RX9 43 "LaundryService" "output" "LLaundryService$Output;") m_199) (fun _ h9 => h9) rfl dX9_describe_46 ?_
    refine lv_bipush (v := (48 : Int32)) hx hb dX9_describe_49 (by decide) ?_
    refine lv_aload_n hx hb dX9_describe_51 rfl (lv_at hl 0 rfl) ?_
    refine va_get (D := fw_D E) (ci := 7) (v := .ref (fw_ad E 0 0)) (C := RX9) (T := TX9) (N := 9) hx hb hU inU9 hown hK (fw_at hP (fw_V0 (f := 10) (by decide) (by decide))) 0 rfl rfl 0 (by decide) (hU (Cond.fieldLink RX9 12 "LaundryService" "state" "LLaundryService$State;") m_193) (fun _ h9 => h9) rfl dX9_describe_52 ?_
    refine va_get (D := fw_D E) (ci := 6) (v := .ref (fw_ad E 0 3)) (C := RX7) (T := TX7) (N := 10) hx hb hU inU7 hown hK (fw_at hP (fw_Vs (f := 0) (by decide) (by decide))) 0 rfl rfl 2 (by decide) (hU (Cond.fieldLink RX9 123 "LaundryService$State" "colours" "[I") m_55) (fun _ h9 => h9) rfl dX9_describe_55 ?_
    refine lv_iload_n hx hb dX9_describe_58 rfl (lv_at hl 1 rfl) ?_
    obtain ⟨g6, h⟩ := fw_g_e h
    refine va_iald (D := fw_D E) hx hb hK (fw_at hP (fw_Vs (f := 3) (by decide) (by decide))) 0 0 rfl rfl (fw_in_e g6) dX9_describe_59 ?_
    refine lv_iadd hx hb dX9_describe_60 ?_
    refine lv_i2c (v := (((48 : Int32) + (μ5 0 3 x1.toNatClampNeg)).toUInt32 % 65536).toInt32) hx hb dX9_describe_61 rfl ?_
    obtain ⟨μ7, r7, hc7, h⟩ := fw_b2_e h
    refine fw_retv (va_runV (As := [.int (((48 : Int32) + (μ5 0 3 x1.toNatClampNeg)).toUInt32 % 65536).toInt32]) (rest := []) ⟨hx, hb, hml, hown, hU⟩ (k_X5_append l hE ((((48 : Int32) + (μ5 0 3 x1.toNatClampNeg)).toUInt32 % 65536).toInt32) hc7) (cwV 1 hU (fw_gV m_1075 m_1076 m_1077 m_8 m_1078) rfl rfl rfl (by decide +kernel) ⟨(Nat.le_of_ble_eq_true rfl), (Nat.le_of_ble_eq_true rfl)⟩) ⟨fw_blind, fw_recv hK hP (fw_V0 (f := 16) (by decide) (by decide)) rfl rfl, fun U hU9 hW9 => ⟨rfl, fw_pre hK hP hSt hS U hU9 hW9⟩⟩ rfl rfl hl.1 rfl (lv_room (Nat.le_of_ble_eq_true rfl)) dX9_describe_62 ⟨Nat.zero_le _, Nat.zero_le _⟩) hS (fun H locs hP hS => ?_)
    refine lv_aload_n hx hb dX9_describe_65 rfl (lv_at hl 0 rfl) ?_
    refine va_get (D := fw_D E) (ci := 7) (v := .ref (fw_ad E 0 0)) (C := RX9) (T := TX9) (N := 9) hx hb hU inU9 hown hK (fw_at hP (fw_V0 (f := 10) (by decide) (by decide))) 0 rfl rfl 0 (by decide) (hU (Cond.fieldLink RX9 12 "LaundryService" "state" "LLaundryService$State;") m_193) (fun _ h9 => h9) rfl dX9_describe_66 ?_
    refine lv_iload_n hx hb dX9_describe_69 rfl (lv_at hl 1 rfl) ?_
    obtain ⟨r8, hc8, h⟩ := fw_b1_e h
    refine fw_ret (va_runV (As := [.int x1]) (rest := []) ⟨hx, hb, hml, hown, hU⟩ (k_X7_stainsOn l hE (by decide) x1 hc8) (cwV 1 hU (fw_gV m_659 m_293 m_294 m_2 m_295) rfl rfl rfl (by decide +kernel) ⟨(Nat.le_of_ble_eq_true rfl), (Nat.le_of_ble_eq_true rfl)⟩) ⟨fw_blind, fw_recv hK hP (fw_Vs (f := 0) (by decide) (by decide)) rfl rfl, fun U hU9 hW9 => ⟨rfl, fw_pre hK hP hSt hS U hU9 hW9⟩⟩ rfl rfl hl.1 rfl (lv_room (Nat.le_of_ble_eq_true rfl)) dX9_describe_70 ⟨Nat.zero_le _, Nat.zero_le _⟩) hS (fun H locs hP hS => ?_)
    refine lv_istore_n (lv' := [(2, .int r8), (0, .ref (fw_ad E 0 10)), (1, .int x1)]) hx hb dX9_describe_73 rfl hl (by decide) rfl (fun ls hl => ?_)
    refine lv_iconst (v := (0 : Int32)) hx hb dX9_describe_74 (by decide) ?_
    refine lv_istore_n (lv' := [(3, .int (0 : Int32)), (2, .int r8), (0, .ref (fw_ad E 0 10)), (1, .int x1)]) hx hb dX9_describe_75 rfl hl (by decide) rfl (fun ls hl => ?_)
    exact L76 1000 μ7 r8 (0 : Int32) H locs ls h hP hS (lv_sub hl [2, 1, 0] rfl)
  have J19 : ∀ (μ : fw_M) (x1 : Int32) (H : Heap) (locs : List Loc) (ls : Array Slot), f_X9_describe_J19 μ x1 = some (μ', r) → fw_P E o d μ H → va_S (fw_A E) s.heap H locs → lv_has ls 4 [(0, .ref (fw_ad E 0 10)), (1, .int x1)] → W p l e (headSpec (fw_ws yX9_describe cX9_describe 4 none) ({ frames := 2, cells := 0, slots := 0, locals := 41 } : Room)).room s m args below meth c H locs 0 0 (MQ below (fw_Q E o d none μ') args s 0 0 (fw_A E)) (F0 m 19 ls []) := by
    intro μ x1 H locs ls h hP hS hl
    unfold f_X9_describe_J19 at h
    refine lv_aload_n hx hb dX9_describe_19 rfl (lv_at hl 0 rfl) ?_
    refine va_get (D := fw_D E) (ci := 7) (v := .ref (fw_ad E 0 16)) (C := RX9) (T := TX9) (N := 9) hx hb hU inU9 hown hK (fw_at hP (fw_V0 (f := 10) (by decide) (by decide))) 0 rfl rfl 6 (by decide) (hU (Cond.fieldLink RX9 43 "LaundryService" "output" "LLaundryService$Output;") m_199) (fun _ h9 => h9) rfl dX9_describe_20 ?_
    refine lv_aload_n hx hb dX9_describe_23 rfl (lv_at hl 0 rfl) ?_
    refine va_get (D := fw_D E) (ci := 7) (v := .ref (fw_ad E 0 0)) (C := RX9) (T := TX9) (N := 9) hx hb hU inU9 hown hK (fw_at hP (fw_V0 (f := 10) (by decide) (by decide))) 0 rfl rfl 0 (by decide) (hU (Cond.fieldLink RX9 12 "LaundryService" "state" "LLaundryService$State;") m_193) (fun _ h9 => h9) rfl dX9_describe_24 ?_
    refine va_get (D := fw_D E) (ci := 6) (v := .ref (fw_ad E 0 2)) (C := RX7) (T := TX7) (N := 10) hx hb hU inU7 hown hK (fw_at hP (fw_Vs (f := 0) (by decide) (by decide))) 0 rfl rfl 1 (by decide) (hU (Cond.fieldLink RX9 119 "LaundryService$State" "socks" "[Z") m_51) (fun _ h9 => h9) rfl dX9_describe_27 ?_
    refine lv_iload_n hx hb dX9_describe_30 rfl (lv_at hl 1 rfl) ?_
    obtain ⟨g3, h⟩ := fw_g_e h
    refine va_zald (D := fw_D E) hx hb hK (fw_at hP (fw_Vs (f := 2) (by decide) (by decide))) 0 1 rfl rfl (fw_in_e g3) dX9_describe_31 ?_
    refine lv_if_eq (tgt := 40) hx hb dX9_describe_32 (by decide) (fun c4 => ?_) (fun c4 => ?_)
    · rw [if_pos c4] at h
      refine lv_bipush (v := (103 : Int32)) hx hb dX9_describe_40 (by decide) ?_
      exact J42 μ x1 (103 : Int32) H locs ls h hP hS (lv_sub hl [0, 1] rfl)
    · rw [if_neg c4] at h
      refine lv_bipush (v := (115 : Int32)) hx hb dX9_describe_35 (by decide) ?_
      refine lv_goto (tgt := 42) hx hb dX9_describe_37 (by decide) ?_
      exact J42 μ x1 (115 : Int32) H locs ls h hP hS (lv_sub hl [0, 1] rfl)
  have EN : ∀ (H : Heap) (locs : List Loc) (ls : Array Slot), fw_P E o d μ H → va_S (fw_A E) s.heap H locs → lv_has ls 4 [(0, .ref (fw_ad E 0 10)), (1, .int x1)] → W p l e (headSpec (fw_ws yX9_describe cX9_describe 4 none) ({ frames := 2, cells := 0, slots := 0, locals := 41 } : Room)).room s m args below meth c H locs 0 0 (MQ below (fw_Q E o d none μ') args s 0 0 (fw_A E)) (F0 m 0 ls []) := by
    intro H locs ls hP hS hl
    unfold f_X9_describe at h
    refine lv_aload_n hx hb dX9_describe_0 rfl (lv_at hl 0 rfl) ?_
    refine va_get (D := fw_D E) (ci := 7) (v := .ref (fw_ad E 0 16)) (C := RX9) (T := TX9) (N := 9) hx hb hU inU9 hown hK (fw_at hP (fw_V0 (f := 10) (by decide) (by decide))) 0 rfl rfl 6 (by decide) (hU (Cond.fieldLink RX9 43 "LaundryService" "output" "LLaundryService$Output;") m_199) (fun _ h9 => h9) rfl dX9_describe_1 ?_
    refine va_get (D := fw_D E) (ci := 5) (v := .int (μ 0 16 1)) (C := RX5) (T := TX5) (N := 2) hx hb hU inU5 hown hK (fw_at hP (fw_V0 (f := 16) (by decide) (by decide))) 0 rfl rfl 1 (by decide) (hU (Cond.fieldLink RX9 302 "LaundryService$Output" "length" "I") m_187) (fun _ h9 => h9) rfl dX9_describe_4 ?_
    refine lv_if_le (tgt := 19) hx hb dX9_describe_7 (by decide) (fun c1 => ?_) (fun c1 => ?_)
    · rw [if_pos c1] at h
      exact J19 μ x1 H locs ls h hP hS (lv_sub hl [0, 1] rfl)
    · rw [if_neg c1] at h
      refine lv_aload_n hx hb dX9_describe_10 rfl (lv_at hl 0 rfl) ?_
      refine va_get (D := fw_D E) (ci := 7) (v := .ref (fw_ad E 0 16)) (C := RX9) (T := TX9) (N := 9) hx hb hU inU9 hown hK (fw_at hP (fw_V0 (f := 10) (by decide) (by decide))) 0 rfl rfl 6 (by decide) (hU (Cond.fieldLink RX9 43 "LaundryService" "output" "LLaundryService$Output;") m_199) (fun _ h9 => h9) rfl dX9_describe_11 ?_
      refine lv_bipush (v := (32 : Int32)) hx hb dX9_describe_14 (by decide) ?_
      obtain ⟨μ2, r2, hc2, h⟩ := fw_b2_e h
      refine fw_retv (va_runV (As := [.int (32 : Int32)]) (rest := []) ⟨hx, hb, hml, hown, hU⟩ (k_X5_append l hE (32 : Int32) hc2) (cwV 1 hU (fw_gV m_1075 m_1076 m_1077 m_8 m_1078) rfl rfl rfl (by decide +kernel) ⟨(Nat.le_of_ble_eq_true rfl), (Nat.le_of_ble_eq_true rfl)⟩) ⟨fw_blind, fw_recv hK hP (fw_V0 (f := 16) (by decide) (by decide)) rfl rfl, fun U hU9 hW9 => ⟨rfl, fw_pre hK hP hSt hS U hU9 hW9⟩⟩ rfl rfl hl.1 rfl (lv_room (Nat.le_of_ble_eq_true rfl)) dX9_describe_16 ⟨Nat.zero_le _, Nat.zero_le _⟩) hS (fun H locs hP hS => ?_)
      exact J19 μ2 x1 H locs ls h hP hS (lv_sub hl [0, 1] rfl)
  subst ha
  have hl := lv_entry ([.ref (fw_ad E 0 10), .int x1]) (n := 4) (Nat.le_of_ble_eq_true rfl)
  rw [lg_entry_eq]
  generalize (lg_sl ([.ref (fw_ad E 0 10), .int x1]) ++ List.replicate (4 - (lg_sl ([.ref (fw_ad E 0 10), .int x1])).length) Slot.unset).toArray = ls at hl ⊢
  exact EN s.heap [] ls hP va_S.rf hl
set_option maxHeartbeats 4000000 in
set_option maxRecDepth 100000 in
theorem k_X9_writeBag (l : Launch) (hst : l.stackTraces = false) {E : fw_E} {o : Int64} {d : UInt64} (hE : fw_ok E) {μ μ' : fw_M} (x1 : Int32) {r : Int32} {k : Nat} (h : f_X9_writeBag μ x1 = some (μ', r, k)) : vx_Met l yX9_writeBag (fw_ws yX9_writeBag cX9_writeBag 3 (some .int)) ({ frames := 7, cells := 1, slots := 6, locals := 110 } : Room) (va_Pc [.ref (fw_ad E 0 10), .int x1] (fw_Pre E o d μ)) (fw_QR E o d k (some (.int r)) μ') (fw_XC E o d k μ') 1 6 (fw_A E) := by
  refine vx_ofW (cc := cX9_writeBag) (maxL := 3) (ret := (some .int)) (by decide) rfl ?_
  intro p e s m args below meth c s₁ B hml hex hv
  obtain ⟨ha, hK, hP, hSt⟩ := hv
  have hx := B.exec
  have hb := B.bytes
  have hr := B.returns
  have hts := atoms_spec (ws := fw_ws yX9_writeBag cX9_writeBag 3 (some .int)) B.pre
  have hU : ∀ w ∈ fw_U, w.before args s = true := fun w hw => hts w (List.mem_cons_of_mem _ hw)
  have hown : s.vm.findClass RX9 = some m.cls := findClass_of_methodNamed B.named
  have hlocks := B.notSynchronized
  have L13 : ∀ (n : Nat) (μ : fw_M) (x1 : Int32) (x2 : Int32) (H : Heap) (locs : List Loc) (ls : Array Slot), f_X9_writeBag_L13 n μ x1 x2 = some (μ', r, k) → fw_P E o d μ H → va_S (fw_A E) s.heap H locs → lv_has ls 3 [(0, .ref (fw_ad E 0 10)), (1, .int x1), (2, .int x2)] → W p l e (headSpec (fw_ws yX9_writeBag cX9_writeBag 3 (some .int)) ({ frames := 7, cells := 1, slots := 6, locals := 110 } : Room)).room s m args below meth c H locs 1 6 (vx_MQ below (fw_QR E o d k (some (.int r)) μ') (fw_XC E o d k μ') args s 1 6 (fw_A E)) (F0 m 13 ls []) := by
    intro n13
    induction n13 with
    | zero => intro μ x1 x2 H locs ls h; rw [f_X9_writeBag_L13] at h; cases h
    | succ n13 ih13 =>
      intro μ x1 x2 H locs ls h hP hS hl
      rw [f_X9_writeBag_L13] at h
      refine lv_iload_n hx hb dX9_writeBag_13 rfl (lv_at hl 2 rfl) ?_
      refine lv_aload_n hx hb dX9_writeBag_14 rfl (lv_at hl 0 rfl) ?_
      refine va_get (D := fw_D E) (ci := 7) (v := .ref (fw_ad E 0 0)) (C := RX9) (T := TX9) (N := 9) hx hb hU inU9 hown hK (fw_at hP (fw_V0 (f := 10) (by decide) (by decide))) 0 rfl rfl 0 (by decide) (hU (Cond.fieldLink RX9 12 "LaundryService" "state" "LLaundryService$State;") m_193) (fun _ h9 => h9) rfl dX9_writeBag_15 ?_
      refine va_get (D := fw_D E) (ci := 6) (v := .int (μ 0 0 6)) (C := RX7) (T := TX7) (N := 10) hx hb hU inU7 hown hK (fw_at hP (fw_Vs (f := 0) (by decide) (by decide))) 0 rfl rfl 6 (by decide) (hU (Cond.fieldLink RX9 109 "LaundryService$State" "garmentCount" "I") m_68) (fun _ h9 => h9) rfl dX9_writeBag_18 ?_
      refine lv_icmp_ge (tgt := 47) hx hb dX9_writeBag_21 (by decide) (fun c3 => ?_) (fun c3 => ?_)
      · rw [if_pos c3] at h
        refine lv_aload_n hx hb dX9_writeBag_47 rfl (lv_at hl 0 rfl) ?_
        refine va_get (D := fw_D E) (ci := 7) (v := .ref (fw_ad E 0 16)) (C := RX9) (T := TX9) (N := 9) hx hb hU inU9 hown hK (fw_at hP (fw_V0 (f := 10) (by decide) (by decide))) 0 rfl rfl 6 (by decide) (hU (Cond.fieldLink RX9 43 "LaundryService" "output" "LLaundryService$Output;") m_199) (fun _ h9 => h9) rfl dX9_writeBag_48 ?_
        refine va_get (D := fw_D E) (ci := 5) (v := .int (μ 0 16 1)) (C := RX5) (T := TX5) (N := 2) hx hb hU inU5 hown hK (fw_at hP (fw_V0 (f := 16) (by decide) (by decide))) 0 rfl rfl 1 (by decide) (hU (Cond.fieldLink RX9 302 "LaundryService$Output" "length" "I") m_187) (fun _ h9 => h9) rfl dX9_writeBag_51 ?_
        refine W.widen (k := 1) (n := 6) (Nat.le_of_ble_eq_true rfl) (Nat.le_of_ble_eq_true rfl) (vx_ret ?_)
        exact W.iret (v := (μ 0 16 1)) hx hb hr (fw_xw (mk := Value.int) h hP hS) hS.2.2 dX9_writeBag_54
      · rw [if_neg c3] at h
        refine lv_aload_n hx hb dX9_writeBag_24 rfl (lv_at hl 0 rfl) ?_
        refine va_get (D := fw_D E) (ci := 7) (v := .ref (fw_ad E 0 0)) (C := RX9) (T := TX9) (N := 9) hx hb hU inU9 hown hK (fw_at hP (fw_V0 (f := 10) (by decide) (by decide))) 0 rfl rfl 0 (by decide) (hU (Cond.fieldLink RX9 12 "LaundryService" "state" "LLaundryService$State;") m_193) (fun _ h9 => h9) rfl dX9_writeBag_25 ?_
        refine lv_iload_n hx hb dX9_writeBag_28 rfl (lv_at hl 2 rfl) ?_
        refine lv_iload_n hx hb dX9_writeBag_29 rfl (lv_at hl 1 rfl) ?_
        obtain ⟨r4, hc4, h⟩ := fw_b1_e h
        refine fw_ret (va_runV (As := [.int x2, .int x1]) (rest := []) ⟨hx, hb, hml, hown, hU⟩ (k_X7_isInBagOf l hE (by decide) x2 x1 hc4) (cwV 2 hU (fw_gV m_1070 m_314 m_315 m_2 m_316) rfl rfl rfl (by decide +kernel) ⟨(Nat.le_of_ble_eq_true rfl), (Nat.le_of_ble_eq_true rfl)⟩) ⟨fw_blind, fw_recv hK hP (fw_Vs (f := 0) (by decide) (by decide)) rfl rfl, fun U hU9 hW9 => ⟨rfl, fw_pre hK hP hSt hS U hU9 hW9⟩⟩ rfl rfl hl.1 rfl (lv_room (Nat.le_of_ble_eq_true rfl)) dX9_writeBag_30 ⟨(Nat.le_of_ble_eq_true rfl), (Nat.le_of_ble_eq_true rfl)⟩) hS (fun H locs hP hS => ?_)
        refine lv_if_eq (tgt := 41) hx hb dX9_writeBag_33 (by decide) (fun c5 => ?_) (fun c5 => ?_)
        · rw [if_pos c5] at h
          refine lv_iinc (v := (x2 + (1 : Int32))) (lv' := [(2, .int (x2 + (1 : Int32))), (0, .ref (fw_ad E 0 10)), (1, .int x1)]) hx hb dX9_writeBag_41 hl (k := 2) rfl rfl (by decide) rfl (fun ls hl => ?_)
          refine lv_goto (tgt := 13) hx hb dX9_writeBag_44 (by decide) ?_
          exact ih13 μ x1 (x2 + (1 : Int32)) H locs ls h hP hS (lv_sub hl [1, 2, 0] rfl)
        · rw [if_neg c5] at h
          refine lv_aload_n hx hb dX9_writeBag_36 rfl (lv_at hl 0 rfl) ?_
          refine lv_iload_n hx hb dX9_writeBag_37 rfl (lv_at hl 2 rfl) ?_
          obtain ⟨μ6, r6, hc6, h⟩ := fw_b2_e h
          refine fw_retv (va_runV (As := [.int x2]) (rest := []) ⟨hx, hb, hml, hown, hU⟩ (k_X9_describe l hE x2 hc6) (cwV 1 hU (fw_gV m_1071 m_1073 ms_10 m_1 m_1074) rfl rfl rfl (by decide +kernel) ⟨(Nat.le_of_ble_eq_true rfl), (Nat.le_of_ble_eq_true rfl)⟩) ⟨fw_blind, fw_recv hK hP (fw_V0 (f := 10) (by decide) (by decide)) rfl rfl, fun U hU9 hW9 => ⟨rfl, fw_pre hK hP hSt hS U hU9 hW9⟩⟩ rfl rfl hl.1 rfl (lv_room (Nat.le_of_ble_eq_true rfl)) dX9_writeBag_38 ⟨(Nat.le_of_ble_eq_true rfl), (Nat.le_of_ble_eq_true rfl)⟩) hS (fun H locs hP hS => ?_)
          refine lv_iinc (v := (x2 + (1 : Int32))) (lv' := [(2, .int (x2 + (1 : Int32))), (0, .ref (fw_ad E 0 10)), (1, .int x1)]) hx hb dX9_writeBag_41 hl (k := 2) rfl rfl (by decide) rfl (fun ls hl => ?_)
          refine lv_goto (tgt := 13) hx hb dX9_writeBag_44 (by decide) ?_
          exact ih13 μ6 x1 (x2 + (1 : Int32)) H locs ls h hP hS (lv_sub hl [1, 2, 0] rfl)
  have EN : ∀ (H : Heap) (locs : List Loc) (ls : Array Slot), fw_P E o d μ H → va_S (fw_A E) s.heap H locs → lv_has ls 3 [(0, .ref (fw_ad E 0 10)), (1, .int x1)] → W p l e (headSpec (fw_ws yX9_writeBag cX9_writeBag 3 (some .int)) ({ frames := 7, cells := 1, slots := 6, locals := 110 } : Room)).room s m args below meth c H locs 0 0 (vx_MQ below (fw_QR E o d k (some (.int r)) μ') (fw_XC E o d k μ') args s 1 6 (fw_A E)) (F0 m 0 ls []) := by
    intro H locs ls hP hS hl
    unfold f_X9_writeBag at h
    refine lv_iload_n hx hb dX9_writeBag_0 rfl (lv_at hl 1 rfl) ?_
    obtain ⟨μ1, r1, k1, hc1, h⟩ := fw_b3_e h
    refine fw_xretv (vx_runS (As := [.int x1]) (rest := []) ⟨hx, hb, hml, hown, hU⟩ (k_X9_requireClient l hst hE x1 hc1) (va_cwS 1 hU (fw_gS m_710 m_711 m_1 m_712) rfl rfl rfl (by decide +kernel) ⟨(Nat.le_of_ble_eq_true rfl), (Nat.le_of_ble_eq_true rfl)⟩) ⟨fw_blind, fun U hU9 hW9 => ⟨rfl, fw_pre hK hP hSt hS U hU9 hW9⟩⟩ rfl rfl hl.1 rfl (lv_room (Nat.le_of_ble_eq_true rfl)) dX9_writeBag_1 ⟨(Nat.le_of_ble_eq_true rfl), (Nat.le_of_ble_eq_true rfl)⟩) hS (fun hk1 H locs hP hS => ?_) (fun hk1 H locs q ce hP hS hce hcv hcl => ?_)
    · rw [if_pos hk1] at h
      refine lv_aload_n hx hb dX9_writeBag_4 rfl (lv_at hl 0 rfl) ?_
      refine va_get (D := fw_D E) (ci := 7) (v := .ref (fw_ad E 0 16)) (C := RX9) (T := TX9) (N := 9) hx hb hU inU9 hown hK (fw_at hP (fw_V0 (f := 10) (by decide) (by decide))) 0 rfl rfl 6 (by decide) (hU (Cond.fieldLink RX9 43 "LaundryService" "output" "LLaundryService$Output;") m_199) (fun _ h9 => h9) rfl dX9_writeBag_5 ?_
      obtain ⟨μ2, r2, hc2, h⟩ := fw_b2_e h
      refine fw_retv (va_runV (As := []) (rest := []) ⟨hx, hb, hml, hown, hU⟩ (k_X5_empty l hE hc2) (cwV 0 hU (fw_gV m_1066 m_1067 m_1068 m_8 m_1069) rfl rfl rfl (by decide +kernel) ⟨(Nat.le_of_ble_eq_true rfl), (Nat.le_of_ble_eq_true rfl)⟩) ⟨fw_blind, fw_recv hK hP (fw_V0 (f := 16) (by decide) (by decide)) rfl rfl, fun U hU9 hW9 => ⟨rfl, fw_pre hK hP hSt hS U hU9 hW9⟩⟩ rfl rfl hl.1 rfl (lv_room (Nat.le_of_ble_eq_true rfl)) dX9_writeBag_8 ⟨(Nat.le_of_ble_eq_true rfl), (Nat.le_of_ble_eq_true rfl)⟩) hS (fun H locs hP hS => ?_)
      refine lv_iconst (v := (0 : Int32)) hx hb dX9_writeBag_11 (by decide) ?_
      refine lv_istore_n (lv' := [(2, .int (0 : Int32)), (0, .ref (fw_ad E 0 10)), (1, .int x1)]) hx hb dX9_writeBag_12 rfl hl (by decide) rfl (fun ls hl => ?_)
      exact L13 1000 μ2 x1 (0 : Int32) H locs ls h hP hS (lv_sub hl [1, 2, 0] rfl)
    · rw [if_neg hk1] at h
      exact vx_out (fun z hz => (hex z hz).elim) hlocks hce hcv hcl (fw_xo h hk1 hP hS) hS.2.2 (Nat.le_of_ble_eq_true rfl) (Nat.le_of_ble_eq_true rfl)
  subst ha
  have hl := lv_entry ([.ref (fw_ad E 0 10), .int x1]) (n := 3) (Nat.le_of_ble_eq_true rfl)
  rw [lg_entry_eq]
  generalize (lg_sl ([.ref (fw_ad E 0 10), .int x1]) ++ List.replicate (3 - (lg_sl ([.ref (fw_ad E 0 10), .int x1])).length) Slot.unset).toArray = ls at hl ⊢
  exact EN s.heap [] ls hP va_S.rf hl
set_option maxHeartbeats 4000000 in
set_option maxRecDepth 100000 in
theorem k_X9_outputChar (l : Launch) (hst : l.stackTraces = false) {E : fw_E} {o : Int64} {d : UInt64} (hE : fw_ok E) {μ μ' : fw_M} (x1 : Int32) {r : Int32} {k : Nat} (h : f_X9_outputChar μ x1 = some (μ', r, k)) : vx_Met l yX9_outputChar (fw_ws yX9_outputChar cX9_outputChar 2 (some .char)) ({ frames := 6, cells := 1, slots := 6, locals := 90 } : Room) (va_Pc [.ref (fw_ad E 0 10), .int x1] (fw_Pre E o d μ)) (fw_QR E o d k (some (.int r)) μ') (fw_XC E o d k μ') 1 6 (fw_A E) := by
  refine vx_ofW (cc := cX9_outputChar) (maxL := 2) (ret := (some .char)) (by decide) rfl ?_
  intro p e s m args below meth c s₁ B hml hex hv
  obtain ⟨ha, hK, hP, hSt⟩ := hv
  have hx := B.exec
  have hb := B.bytes
  have hr := B.returns
  have hts := atoms_spec (ws := fw_ws yX9_outputChar cX9_outputChar 2 (some .char)) B.pre
  have hU : ∀ w ∈ fw_U, w.before args s = true := fun w hw => hts w (List.mem_cons_of_mem _ hw)
  have hown : s.vm.findClass RX9 = some m.cls := findClass_of_methodNamed B.named
  have hlocks := B.notSynchronized
  have EN : ∀ (H : Heap) (locs : List Loc) (ls : Array Slot), fw_P E o d μ H → va_S (fw_A E) s.heap H locs → lv_has ls 2 [(0, .ref (fw_ad E 0 10)), (1, .int x1)] → W p l e (headSpec (fw_ws yX9_outputChar cX9_outputChar 2 (some .char)) ({ frames := 6, cells := 1, slots := 6, locals := 90 } : Room)).room s m args below meth c H locs 0 0 (vx_MQ below (fw_QR E o d k (some (.int r)) μ') (fw_XC E o d k μ') args s 1 6 (fw_A E)) (F0 m 0 ls []) := by
    intro H locs ls hP hS hl
    unfold f_X9_outputChar at h
    refine lv_iload_n hx hb dX9_outputChar_0 rfl (lv_at hl 1 rfl) ?_
    refine lv_if_lt (tgt := 15) hx hb dX9_outputChar_1 (by decide) (fun c1 => ?_) (fun c1 => ?_)
    · rw [if_pos c1] at h
      exact fw_throwW hx hb hst hown hU hSt hP hS (m_443) (m_13) (List.mem_of_getElem? (i := 12) rfl) thr_307 (hl.1.trans hml.symm) dX9_outputChar_15 dX9_outputChar_18 dX9_outputChar_19 dX9_outputChar_22 dX9_outputChar_25 hex (Nat.le_of_ble_eq_true rfl) (Nat.le_of_ble_eq_true rfl) (Nat.le_of_ble_eq_true rfl) (Nat.le_of_ble_eq_true rfl) hlocks h (by decide) rfl (Nat.le_of_ble_eq_true rfl) (Nat.le_of_ble_eq_true rfl)
    · rw [if_neg c1] at h
      refine lv_iload_n hx hb dX9_outputChar_4 rfl (lv_at hl 1 rfl) ?_
      refine lv_aload_n hx hb dX9_outputChar_5 rfl (lv_at hl 0 rfl) ?_
      refine va_get (D := fw_D E) (ci := 7) (v := .ref (fw_ad E 0 16)) (C := RX9) (T := TX9) (N := 9) hx hb hU inU9 hown hK (fw_at hP (fw_V0 (f := 10) (by decide) (by decide))) 0 rfl rfl 6 (by decide) (hU (Cond.fieldLink RX9 43 "LaundryService" "output" "LLaundryService$Output;") m_199) (fun _ h9 => h9) rfl dX9_outputChar_6 ?_
      refine va_get (D := fw_D E) (ci := 5) (v := .int (μ 0 16 1)) (C := RX5) (T := TX5) (N := 2) hx hb hU inU5 hown hK (fw_at hP (fw_V0 (f := 16) (by decide) (by decide))) 0 rfl rfl 1 (by decide) (hU (Cond.fieldLink RX9 302 "LaundryService$Output" "length" "I") m_187) (fun _ h9 => h9) rfl dX9_outputChar_9 ?_
      refine lv_icmp_lt (tgt := 26) hx hb dX9_outputChar_12 (by decide) (fun c2 => ?_) (fun c2 => ?_)
      · rw [if_pos c2] at h
        refine lv_aload_n hx hb dX9_outputChar_26 rfl (lv_at hl 0 rfl) ?_
        refine va_get (D := fw_D E) (ci := 7) (v := .ref (fw_ad E 0 16)) (C := RX9) (T := TX9) (N := 9) hx hb hU inU9 hown hK (fw_at hP (fw_V0 (f := 10) (by decide) (by decide))) 0 rfl rfl 6 (by decide) (hU (Cond.fieldLink RX9 43 "LaundryService" "output" "LLaundryService$Output;") m_199) (fun _ h9 => h9) rfl dX9_outputChar_27 ?_
        refine va_get (D := fw_D E) (ci := 5) (v := .ref (fw_ad E 0 17)) (C := RX5) (T := TX5) (N := 2) hx hb hU inU5 hown hK (fw_at hP (fw_V0 (f := 16) (by decide) (by decide))) 0 rfl rfl 0 (by decide) (hU (Cond.fieldLink RX9 308 "LaundryService$Output" "characters" "[C") m_185) (fun _ h9 => h9) rfl dX9_outputChar_30 ?_
        refine lv_iload_n hx hb dX9_outputChar_33 rfl (lv_at hl 1 rfl) ?_
        obtain ⟨g3, h⟩ := fw_g_e h
        refine va_cald (D := fw_D E) hx hb hK (fw_at hP (fw_V0 (f := 17) (by decide) (by decide))) 0 2 rfl rfl (fw_in_e g3) dX9_outputChar_34 ?_
        obtain ⟨g4, h⟩ := fw_g_e h
        refine W.widen (k := 1) (n := 6) (Nat.le_of_ble_eq_true rfl) (Nat.le_of_ble_eq_true rfl) (vx_ret ?_)
        exact W.zret (v := (μ 0 17 x1.toNatClampNeg)) hx hb hr (fw_ch_e g4) (fw_xw (mk := Value.int) h hP hS) hS.2.2 dX9_outputChar_35
      · rw [if_neg c2] at h
        exact fw_throwW hx hb hst hown hU hSt hP hS (m_443) (m_13) (List.mem_of_getElem? (i := 12) rfl) thr_307 (hl.1.trans hml.symm) dX9_outputChar_15 dX9_outputChar_18 dX9_outputChar_19 dX9_outputChar_22 dX9_outputChar_25 hex (Nat.le_of_ble_eq_true rfl) (Nat.le_of_ble_eq_true rfl) (Nat.le_of_ble_eq_true rfl) (Nat.le_of_ble_eq_true rfl) hlocks h (by decide) rfl (Nat.le_of_ble_eq_true rfl) (Nat.le_of_ble_eq_true rfl)
  subst ha
  have hl := lv_entry ([.ref (fw_ad E 0 10), .int x1]) (n := 2) (Nat.le_of_ble_eq_true rfl)
  rw [lg_entry_eq]
  generalize (lg_sl ([.ref (fw_ad E 0 10), .int x1]) ++ List.replicate (2 - (lg_sl ([.ref (fw_ad E 0 10), .int x1])).length) Slot.unset).toArray = ls at hl ⊢
  exact EN s.heap [] ls hP va_S.rf hl
set_option maxHeartbeats 4000000 in
set_option maxRecDepth 100000 in
theorem k_X9_undoCount (l : Launch) {E : fw_E} {o : Int64} {d : UInt64} (hE : fw_ok E) {μ : fw_M} {r : Int32} (h : f_X9_undoCount μ = some r) : Met l yX9_undoCount (fw_ws yX9_undoCount cX9_undoCount 1 (some .int)) ({ frames := 0, cells := 0, slots := 0, locals := 0 } : Room) (va_Pc [.ref (fw_ad E 0 10)] (fw_Pre E o d μ)) (fw_Q E o d (some (.int r)) μ) 0 0 (fw_A E) := by
  refine Met.ofW (cc := cX9_undoCount) (maxL := 1) (ret := (some .int)) (by decide) rfl ?_
  intro p e s m args below meth c s₁ B hml hv
  obtain ⟨ha, hK, hP, hSt⟩ := hv
  have hx := B.exec
  have hb := B.bytes
  have hr := B.returns
  have hts := atoms_spec (ws := fw_ws yX9_undoCount cX9_undoCount 1 (some .int)) B.pre
  have hU : ∀ w ∈ fw_U, w.before args s = true := fun w hw => hts w (List.mem_cons_of_mem _ hw)
  have hown : s.vm.findClass RX9 = some m.cls := findClass_of_methodNamed B.named
  have hlocks := B.notSynchronized
  have EN : ∀ (H : Heap) (locs : List Loc) (ls : Array Slot), fw_P E o d μ H → va_S (fw_A E) s.heap H locs → lv_has ls 1 [(0, .ref (fw_ad E 0 10))] → W p l e (headSpec (fw_ws yX9_undoCount cX9_undoCount 1 (some .int)) ({ frames := 0, cells := 0, slots := 0, locals := 0 } : Room)).room s m args below meth c H locs 0 0 (MQ below (fw_Q E o d (some (.int r)) μ) args s 0 0 (fw_A E)) (F0 m 0 ls []) := by
    intro H locs ls hP hS hl
    unfold f_X9_undoCount at h
    refine lv_aload_n hx hb dX9_undoCount_0 rfl (lv_at hl 0 rfl) ?_
    refine va_get (D := fw_D E) (ci := 7) (v := .ref (fw_ad E 0 11)) (C := RX9) (T := TX9) (N := 9) hx hb hU inU9 hown hK (fw_at hP (fw_V0 (f := 10) (by decide) (by decide))) 0 rfl rfl 4 (by decide) (hU (Cond.fieldLink RX9 29 "LaundryService" "history" "LLaundryService$History;") m_197) (fun _ h9 => h9) rfl dX9_undoCount_1 ?_
    refine va_get (D := fw_D E) (ci := 4) (v := .int (μ 0 11 2)) (C := RX3) (T := TX3) (N := 3) hx hb hU inU3 hown hK (fw_at hP (fw_V0 (f := 11) (by decide) (by decide))) 0 rfl rfl 2 (by decide) (hU (Cond.fieldLink RX9 312 "LaundryService$History" "count" "I") m_113) (fun _ h9 => h9) rfl dX9_undoCount_4 ?_
    exact W.iret (v := (μ 0 11 2)) hx hb hr (fw_er (mk := Value.int) h hP hS) hS.2.2 dX9_undoCount_7
  subst ha
  have hl := lv_entry ([.ref (fw_ad E 0 10)]) (n := 1) (Nat.le_of_ble_eq_true rfl)
  rw [lg_entry_eq]
  generalize (lg_sl ([.ref (fw_ad E 0 10)]) ++ List.replicate (1 - (lg_sl ([.ref (fw_ad E 0 10)])).length) Slot.unset).toArray = ls at hl ⊢
  exact EN s.heap [] ls hP va_S.rf hl
set_option maxHeartbeats 4000000 in
set_option maxRecDepth 100000 in
theorem k_X9_undo (l : Launch) (hst : l.stackTraces = false) {E : fw_E} {o : Int64} {d : UInt64} (hE : fw_ok E) {μ μ' : fw_M} {r : Int32} {k : Nat} (h : f_X9_undo μ = some (μ', r, k)) : vx_Met l yX9_undo (fw_ws yX9_undo cX9_undo 1 (some .int)) ({ frames := 6, cells := 1, slots := 6, locals := 90 } : Room) (va_Pc [.ref (fw_ad E 0 10)] (fw_Pre E o d μ)) (fw_QR E o d k (some (.int r)) μ') (fw_XC E o d k μ') 1 6 (fw_A E) := by
  refine vx_ofW (cc := cX9_undo) (maxL := 1) (ret := (some .int)) (by decide) rfl ?_
  intro p e s m args below meth c s₁ B hml hex hv
  obtain ⟨ha, hK, hP, hSt⟩ := hv
  have hx := B.exec
  have hb := B.bytes
  have hr := B.returns
  have hts := atoms_spec (ws := fw_ws yX9_undo cX9_undo 1 (some .int)) B.pre
  have hU : ∀ w ∈ fw_U, w.before args s = true := fun w hw => hts w (List.mem_cons_of_mem _ hw)
  have hown : s.vm.findClass RX9 = some m.cls := findClass_of_methodNamed B.named
  have hlocks := B.notSynchronized
  have EN : ∀ (H : Heap) (locs : List Loc) (ls : Array Slot), fw_P E o d μ H → va_S (fw_A E) s.heap H locs → lv_has ls 1 [(0, .ref (fw_ad E 0 10))] → W p l e (headSpec (fw_ws yX9_undo cX9_undo 1 (some .int)) ({ frames := 6, cells := 1, slots := 6, locals := 90 } : Room)).room s m args below meth c H locs 0 0 (vx_MQ below (fw_QR E o d k (some (.int r)) μ') (fw_XC E o d k μ') args s 1 6 (fw_A E)) (F0 m 0 ls []) := by
    intro H locs ls hP hS hl
    unfold f_X9_undo at h
    refine lv_aload_n hx hb dX9_undo_0 rfl (lv_at hl 0 rfl) ?_
    refine va_get (D := fw_D E) (ci := 7) (v := .ref (fw_ad E 0 11)) (C := RX9) (T := TX9) (N := 9) hx hb hU inU9 hown hK (fw_at hP (fw_V0 (f := 10) (by decide) (by decide))) 0 rfl rfl 4 (by decide) (hU (Cond.fieldLink RX9 29 "LaundryService" "history" "LLaundryService$History;") m_197) (fun _ h9 => h9) rfl dX9_undo_1 ?_
    refine va_get (D := fw_D E) (ci := 4) (v := .int (μ 0 11 2)) (C := RX3) (T := TX3) (N := 3) hx hb hU inU3 hown hK (fw_at hP (fw_V0 (f := 11) (by decide) (by decide))) 0 rfl rfl 2 (by decide) (hU (Cond.fieldLink RX9 312 "LaundryService$History" "count" "I") m_113) (fun _ h9 => h9) rfl dX9_undo_4 ?_
    refine lv_if_ne (tgt := 21) hx hb dX9_undo_7 (by decide) (fun c1 => ?_) (fun c1 => ?_)
    · rw [if_neg c1] at h
      refine lv_aload_n hx hb dX9_undo_21 rfl (lv_at hl 0 rfl) ?_
      refine va_get (D := fw_D E) (ci := 7) (v := .ref (fw_ad E 0 11)) (C := RX9) (T := TX9) (N := 9) hx hb hU inU9 hown hK (fw_at hP (fw_V0 (f := 10) (by decide) (by decide))) 0 rfl rfl 4 (by decide) (hU (Cond.fieldLink RX9 29 "LaundryService" "history" "LLaundryService$History;") m_197) (fun _ h9 => h9) rfl dX9_undo_22 ?_
      refine lv_aload_n hx hb dX9_undo_25 rfl (lv_at hl 0 rfl) ?_
      refine va_get (D := fw_D E) (ci := 7) (v := .ref (fw_ad E 0 0)) (C := RX9) (T := TX9) (N := 9) hx hb hU inU9 hown hK (fw_at hP (fw_V0 (f := 10) (by decide) (by decide))) 0 rfl rfl 0 (by decide) (hU (Cond.fieldLink RX9 12 "LaundryService" "state" "LLaundryService$State;") m_193) (fun _ h9 => h9) rfl dX9_undo_26 ?_
      obtain ⟨μ2, r2, hc2, h⟩ := fw_b2_e h
      refine fw_retv (va_runV (As := [.ref (fw_ad E 0 0)]) (rest := []) ⟨hx, hb, hml, hown, hU⟩ (k_X3_stepBack l hE (by decide) hc2) (cwV 1 hU (fw_gV m_1095 m_1096 m_1097 m_3 m_1098) rfl rfl rfl (by decide +kernel) ⟨(Nat.le_of_ble_eq_true rfl), (Nat.le_of_ble_eq_true rfl)⟩) ⟨fw_blind, fw_recv hK hP (fw_V0 (f := 11) (by decide) (by decide)) rfl rfl, fun U hU9 hW9 => ⟨rfl, fw_pre hK hP hSt hS U hU9 hW9⟩⟩ rfl rfl hl.1 rfl (lv_room (Nat.le_of_ble_eq_true rfl)) dX9_undo_29 ⟨Nat.zero_le _, Nat.zero_le _⟩) hS (fun H locs hP hS => ?_)
      refine lv_aload_n hx hb dX9_undo_32 rfl (lv_at hl 0 rfl) ?_
      refine va_get (D := fw_D E) (ci := 7) (v := .ref (fw_ad E 0 11)) (C := RX9) (T := TX9) (N := 9) hx hb hU inU9 hown hK (fw_at hP (fw_V0 (f := 10) (by decide) (by decide))) 0 rfl rfl 4 (by decide) (hU (Cond.fieldLink RX9 29 "LaundryService" "history" "LLaundryService$History;") m_197) (fun _ h9 => h9) rfl dX9_undo_33 ?_
      refine va_get (D := fw_D E) (ci := 4) (v := .int (μ2 0 11 2)) (C := RX3) (T := TX3) (N := 3) hx hb hU inU3 hown hK (fw_at hP (fw_V0 (f := 11) (by decide) (by decide))) 0 rfl rfl 2 (by decide) (hU (Cond.fieldLink RX9 312 "LaundryService$History" "count" "I") m_113) (fun _ h9 => h9) rfl dX9_undo_36 ?_
      refine W.widen (k := 1) (n := 6) (Nat.le_of_ble_eq_true rfl) (Nat.le_of_ble_eq_true rfl) (vx_ret ?_)
      exact W.iret (v := (μ2 0 11 2)) hx hb hr (fw_xw (mk := Value.int) h hP hS) hS.2.2 dX9_undo_39
    · rw [if_pos c1] at h
      exact fw_throwW hx hb hst hown hU hSt hP hS (m_492) (m_19) (List.mem_of_getElem? (i := 13) rfl) thr_205 (hl.1.trans hml.symm) dX9_undo_10 dX9_undo_13 dX9_undo_14 dX9_undo_17 dX9_undo_20 hex (Nat.le_of_ble_eq_true rfl) (Nat.le_of_ble_eq_true rfl) (Nat.le_of_ble_eq_true rfl) (Nat.le_of_ble_eq_true rfl) hlocks h (by decide) rfl (Nat.le_of_ble_eq_true rfl) (Nat.le_of_ble_eq_true rfl)
  subst ha
  have hl := lv_entry ([.ref (fw_ad E 0 10)]) (n := 1) (Nat.le_of_ble_eq_true rfl)
  rw [lg_entry_eq]
  generalize (lg_sl ([.ref (fw_ad E 0 10)]) ++ List.replicate (1 - (lg_sl ([.ref (fw_ad E 0 10)])).length) Slot.unset).toArray = ls at hl ⊢
  exact EN s.heap [] ls hP va_S.rf hl
set_option maxHeartbeats 4000000 in
set_option maxRecDepth 100000 in
theorem k_X9_save (l : Launch) {E : fw_E} {o : Int64} {d : UInt64} (hE : fw_ok E) {μ μ' : fw_M} {r : Int32} (h : f_X9_save μ = some (μ', r)) : Met l yX9_save (fw_ws yX9_save cX9_save 1 (some .int)) ({ frames := 1, cells := 0, slots := 0, locals := 22 } : Room) (va_Pc [.ref (fw_ad E 0 10)] (fw_Pre E o d μ)) (fw_Q E o d (some (.int r)) μ') 0 0 (fw_A E) := by
  refine Met.ofW (cc := cX9_save) (maxL := 1) (ret := (some .int)) (by decide) rfl ?_
  intro p e s m args below meth c s₁ B hml hv
  obtain ⟨ha, hK, hP, hSt⟩ := hv
  have hx := B.exec
  have hb := B.bytes
  have hr := B.returns
  have hts := atoms_spec (ws := fw_ws yX9_save cX9_save 1 (some .int)) B.pre
  have hU : ∀ w ∈ fw_U, w.before args s = true := fun w hw => hts w (List.mem_cons_of_mem _ hw)
  have hown : s.vm.findClass RX9 = some m.cls := findClass_of_methodNamed B.named
  have hlocks := B.notSynchronized
  have EN : ∀ (H : Heap) (locs : List Loc) (ls : Array Slot), fw_P E o d μ H → va_S (fw_A E) s.heap H locs → lv_has ls 1 [(0, .ref (fw_ad E 0 10))] → W p l e (headSpec (fw_ws yX9_save cX9_save 1 (some .int)) ({ frames := 1, cells := 0, slots := 0, locals := 22 } : Room)).room s m args below meth c H locs 0 0 (MQ below (fw_Q E o d (some (.int r)) μ') args s 0 0 (fw_A E)) (F0 m 0 ls []) := by
    intro H locs ls hP hS hl
    unfold f_X9_save at h
    refine lv_aload_n hx hb dX9_save_0 rfl (lv_at hl 0 rfl) ?_
    refine va_get (D := fw_D E) (ci := 7) (v := .ref (fw_ad E 2 0)) (C := RX9) (T := TX9) (N := 9) hx hb hU inU9 hown hK (fw_at hP (fw_V0 (f := 10) (by decide) (by decide))) 0 rfl rfl 2 (by decide) (hU (Cond.fieldLink RX9 19 "LaundryService" "saved" "LLaundryService$State;") m_195) (fun _ h9 => h9) rfl dX9_save_1 ?_
    refine lv_aload_n hx hb dX9_save_4 rfl (lv_at hl 0 rfl) ?_
    refine va_get (D := fw_D E) (ci := 7) (v := .ref (fw_ad E 0 0)) (C := RX9) (T := TX9) (N := 9) hx hb hU inU9 hown hK (fw_at hP (fw_V0 (f := 10) (by decide) (by decide))) 0 rfl rfl 0 (by decide) (hU (Cond.fieldLink RX9 12 "LaundryService" "state" "LLaundryService$State;") m_193) (fun _ h9 => h9) rfl dX9_save_5 ?_
    obtain ⟨μ1, r1, hc1, h⟩ := fw_b2_e h
    refine fw_retv (va_runV (As := [.ref (fw_ad E 0 0)]) (rest := []) ⟨hx, hb, hml, hown, hU⟩ (k_X7_copyFrom l hE (by decide) (by decide) hc1) (cwV 1 hU (fw_gV m_282 m_283 m_284 m_2 m_285) rfl rfl rfl (by decide +kernel) ⟨(Nat.le_of_ble_eq_true rfl), (Nat.le_of_ble_eq_true rfl)⟩) ⟨fw_blind, fw_recv hK hP (fw_Vs (f := 0) (by decide) (by decide)) rfl rfl, fun U hU9 hW9 => ⟨rfl, fw_pre hK hP hSt hS U hU9 hW9⟩⟩ rfl rfl hl.1 rfl (lv_room (Nat.le_of_ble_eq_true rfl)) dX9_save_8 ⟨Nat.zero_le _, Nat.zero_le _⟩) hS (fun H locs hP hS => ?_)
    refine lv_aload_n hx hb dX9_save_11 rfl (lv_at hl 0 rfl) ?_
    refine lv_iconst (v := (1 : Int32)) hx hb dX9_save_12 (by decide) ?_
    refine fw_put (ci := 7) (v := .int (1 : Int32)) (ty := .boolean) (C := RX9) (T := TX9) (N := 9) hx hb hU inU9 tyX9 tyX9_ok nmX9 hown hK hP hE hS (fw_V0 (f := 10) (by decide) (by decide)) rfl rfl 3 (by decide) (hU (Cond.fieldLink RX9 22 "LaundryService" "hasSaved" "Z") m_196) (fun _ h9 => h9) rfl (by decide +kernel) rfl rfl (Nat.le_of_ble_eq_true rfl) 3 (1 : Int32) (by rw [fw_u_c]; rfl) dX9_save_13 (fun H locs hP hS => ?_)
    obtain ⟨μ2, eμ2, h⟩ := fw_l_e h
    rw [← eμ2] at hP
    refine lv_aload_n hx hb dX9_save_16 rfl (lv_at hl 0 rfl) ?_
    refine va_get (D := fw_D E) (ci := 7) (v := .ref (fw_ad E 2 0)) (C := RX9) (T := TX9) (N := 9) hx hb hU inU9 hown hK (fw_at hP (fw_V0 (f := 10) (by decide) (by decide))) 0 rfl rfl 2 (by decide) (hU (Cond.fieldLink RX9 19 "LaundryService" "saved" "LLaundryService$State;") m_195) (fun _ h9 => h9) rfl dX9_save_17 ?_
    refine va_get (D := fw_D E) (ci := 6) (v := .int (μ2 2 0 6)) (C := RX7) (T := TX7) (N := 10) hx hb hU inU7 hown hK (fw_at hP (fw_Vs (f := 0) (by decide) (by decide))) 0 rfl rfl 6 (by decide) (hU (Cond.fieldLink RX9 109 "LaundryService$State" "garmentCount" "I") m_68) (fun _ h9 => h9) rfl dX9_save_20 ?_
    exact W.iret (v := (μ2 2 0 6)) hx hb hr (fw_ew (mk := Value.int) h hP hS) hS.2.2 dX9_save_23
  subst ha
  have hl := lv_entry ([.ref (fw_ad E 0 10)]) (n := 1) (Nat.le_of_ble_eq_true rfl)
  rw [lg_entry_eq]
  generalize (lg_sl ([.ref (fw_ad E 0 10)]) ++ List.replicate (1 - (lg_sl ([.ref (fw_ad E 0 10)])).length) Slot.unset).toArray = ls at hl ⊢
  exact EN s.heap [] ls hP va_S.rf hl
set_option maxHeartbeats 4000000 in
set_option maxRecDepth 100000 in
theorem k_X9_restore (l : Launch) (hst : l.stackTraces = false) {E : fw_E} {o : Int64} {d : UInt64} (hE : fw_ok E) {μ μ' : fw_M} {r : Int32} {k : Nat} (h : f_X9_restore μ = some (μ', r, k)) : vx_Met l yX9_restore (fw_ws yX9_restore cX9_restore 1 (some .int)) ({ frames := 6, cells := 1, slots := 6, locals := 90 } : Room) (va_Pc [.ref (fw_ad E 0 10)] (fw_Pre E o d μ)) (fw_QR E o d k (some (.int r)) μ') (fw_XC E o d k μ') 1 6 (fw_A E) := by
  refine vx_ofW (cc := cX9_restore) (maxL := 1) (ret := (some .int)) (by decide) rfl ?_
  intro p e s m args below meth c s₁ B hml hex hv
  obtain ⟨ha, hK, hP, hSt⟩ := hv
  have hx := B.exec
  have hb := B.bytes
  have hr := B.returns
  have hts := atoms_spec (ws := fw_ws yX9_restore cX9_restore 1 (some .int)) B.pre
  have hU : ∀ w ∈ fw_U, w.before args s = true := fun w hw => hts w (List.mem_cons_of_mem _ hw)
  have hown : s.vm.findClass RX9 = some m.cls := findClass_of_methodNamed B.named
  have hlocks := B.notSynchronized
  have EN : ∀ (H : Heap) (locs : List Loc) (ls : Array Slot), fw_P E o d μ H → va_S (fw_A E) s.heap H locs → lv_has ls 1 [(0, .ref (fw_ad E 0 10))] → W p l e (headSpec (fw_ws yX9_restore cX9_restore 1 (some .int)) ({ frames := 6, cells := 1, slots := 6, locals := 90 } : Room)).room s m args below meth c H locs 0 0 (vx_MQ below (fw_QR E o d k (some (.int r)) μ') (fw_XC E o d k μ') args s 1 6 (fw_A E)) (F0 m 0 ls []) := by
    intro H locs ls hP hS hl
    unfold f_X9_restore at h
    refine lv_aload_n hx hb dX9_restore_0 rfl (lv_at hl 0 rfl) ?_
    refine va_get (D := fw_D E) (ci := 7) (v := .int (μ 0 10 3)) (C := RX9) (T := TX9) (N := 9) hx hb hU inU9 hown hK (fw_at hP (fw_V0 (f := 10) (by decide) (by decide))) 0 rfl rfl 3 (by decide) (hU (Cond.fieldLink RX9 22 "LaundryService" "hasSaved" "Z") m_196) (fun _ h9 => h9) rfl dX9_restore_1 ?_
    refine lv_if_ne (tgt := 18) hx hb dX9_restore_4 (by decide) (fun c1 => ?_) (fun c1 => ?_)
    · rw [if_neg c1] at h
      refine lv_aload_n hx hb dX9_restore_18 rfl (lv_at hl 0 rfl) ?_
      refine va_get (D := fw_D E) (ci := 7) (v := .ref (fw_ad E 0 0)) (C := RX9) (T := TX9) (N := 9) hx hb hU inU9 hown hK (fw_at hP (fw_V0 (f := 10) (by decide) (by decide))) 0 rfl rfl 0 (by decide) (hU (Cond.fieldLink RX9 12 "LaundryService" "state" "LLaundryService$State;") m_193) (fun _ h9 => h9) rfl dX9_restore_19 ?_
      refine lv_aload_n hx hb dX9_restore_22 rfl (lv_at hl 0 rfl) ?_
      refine va_get (D := fw_D E) (ci := 7) (v := .ref (fw_ad E 2 0)) (C := RX9) (T := TX9) (N := 9) hx hb hU inU9 hown hK (fw_at hP (fw_V0 (f := 10) (by decide) (by decide))) 0 rfl rfl 2 (by decide) (hU (Cond.fieldLink RX9 19 "LaundryService" "saved" "LLaundryService$State;") m_195) (fun _ h9 => h9) rfl dX9_restore_23 ?_
      obtain ⟨μ2, r2, hc2, h⟩ := fw_b2_e h
      refine fw_retv (va_runV (As := [.ref (fw_ad E 2 0)]) (rest := []) ⟨hx, hb, hml, hown, hU⟩ (k_X7_copyFrom l hE (by decide) (by decide) hc2) (cwV 1 hU (fw_gV m_282 m_283 m_284 m_2 m_285) rfl rfl rfl (by decide +kernel) ⟨(Nat.le_of_ble_eq_true rfl), (Nat.le_of_ble_eq_true rfl)⟩) ⟨fw_blind, fw_recv hK hP (fw_Vs (f := 0) (by decide) (by decide)) rfl rfl, fun U hU9 hW9 => ⟨rfl, fw_pre hK hP hSt hS U hU9 hW9⟩⟩ rfl rfl hl.1 rfl (lv_room (Nat.le_of_ble_eq_true rfl)) dX9_restore_26 ⟨Nat.zero_le _, Nat.zero_le _⟩) hS (fun H locs hP hS => ?_)
      refine lv_aload_n hx hb dX9_restore_29 rfl (lv_at hl 0 rfl) ?_
      refine va_get (D := fw_D E) (ci := 7) (v := .ref (fw_ad E 0 11)) (C := RX9) (T := TX9) (N := 9) hx hb hU inU9 hown hK (fw_at hP (fw_V0 (f := 10) (by decide) (by decide))) 0 rfl rfl 4 (by decide) (hU (Cond.fieldLink RX9 29 "LaundryService" "history" "LLaundryService$History;") m_197) (fun _ h9 => h9) rfl dX9_restore_30 ?_
      obtain ⟨μ3, r3, hc3, h⟩ := fw_b2_e h
      refine fw_retv (va_runV (As := []) (rest := []) ⟨hx, hb, hml, hown, hU⟩ (k_X3_forget l hE hc3) (cwV 0 hU (fw_gV m_1107 m_1108 m_1109 m_3 m_1110) rfl rfl rfl (by decide +kernel) ⟨(Nat.le_of_ble_eq_true rfl), (Nat.le_of_ble_eq_true rfl)⟩) ⟨fw_blind, fw_recv hK hP (fw_V0 (f := 11) (by decide) (by decide)) rfl rfl, fun U hU9 hW9 => ⟨rfl, fw_pre hK hP hSt hS U hU9 hW9⟩⟩ rfl rfl hl.1 rfl (lv_room (Nat.le_of_ble_eq_true rfl)) dX9_restore_33 ⟨Nat.zero_le _, Nat.zero_le _⟩) hS (fun H locs hP hS => ?_)
      refine lv_aload_n hx hb dX9_restore_36 rfl (lv_at hl 0 rfl) ?_
      refine va_get (D := fw_D E) (ci := 7) (v := .ref (fw_ad E 0 0)) (C := RX9) (T := TX9) (N := 9) hx hb hU inU9 hown hK (fw_at hP (fw_V0 (f := 10) (by decide) (by decide))) 0 rfl rfl 0 (by decide) (hU (Cond.fieldLink RX9 12 "LaundryService" "state" "LLaundryService$State;") m_193) (fun _ h9 => h9) rfl dX9_restore_37 ?_
      refine va_get (D := fw_D E) (ci := 6) (v := .int (μ3 0 0 6)) (C := RX7) (T := TX7) (N := 10) hx hb hU inU7 hown hK (fw_at hP (fw_Vs (f := 0) (by decide) (by decide))) 0 rfl rfl 6 (by decide) (hU (Cond.fieldLink RX9 109 "LaundryService$State" "garmentCount" "I") m_68) (fun _ h9 => h9) rfl dX9_restore_40 ?_
      refine W.widen (k := 1) (n := 6) (Nat.le_of_ble_eq_true rfl) (Nat.le_of_ble_eq_true rfl) (vx_ret ?_)
      exact W.iret (v := (μ3 0 0 6)) hx hb hr (fw_xw (mk := Value.int) h hP hS) hS.2.2 dX9_restore_43
    · rw [if_pos c1] at h
      exact fw_throwW hx hb hst hown hU hSt hP hS (m_492) (m_19) (List.mem_of_getElem? (i := 14) rfl) thr_205 (hl.1.trans hml.symm) dX9_restore_7 dX9_restore_10 dX9_restore_11 dX9_restore_14 dX9_restore_17 hex (Nat.le_of_ble_eq_true rfl) (Nat.le_of_ble_eq_true rfl) (Nat.le_of_ble_eq_true rfl) (Nat.le_of_ble_eq_true rfl) hlocks h (by decide) rfl (Nat.le_of_ble_eq_true rfl) (Nat.le_of_ble_eq_true rfl)
  subst ha
  have hl := lv_entry ([.ref (fw_ad E 0 10)]) (n := 1) (Nat.le_of_ble_eq_true rfl)
  rw [lg_entry_eq]
  generalize (lg_sl ([.ref (fw_ad E 0 10)]) ++ List.replicate (1 - (lg_sl ([.ref (fw_ad E 0 10)])).length) Slot.unset).toArray = ls at hl ⊢
  exact EN s.heap [] ls hP va_S.rf hl
