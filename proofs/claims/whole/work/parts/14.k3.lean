/-! contracts, laid by wip/whole/lay.py out of the bytecode listing -/
set_option maxHeartbeats 4000000 in
set_option maxRecDepth 100000 in
theorem k_X3_spareRow (l : Launch) {E : fw_E} {o : Int64} {d : UInt64} (hE : fw_ok E) {μ : fw_M} {r : Int32} (h : f_X3_spareRow μ = some r) : Met l yX3_spareRow (fw_ws yX3_spareRow cX3_spareRow 1 (some .int)) ({ frames := 0, cells := 0, slots := 0, locals := 0 } : Room) (va_Pc [.ref (fw_ad E 0 11)] (fw_Pre E o d μ)) (fw_Q E o d (some (.int r)) μ) 0 0 (fw_A E) := by
  refine Met.ofW (cc := cX3_spareRow) (maxL := 1) (ret := (some .int)) (by decide) rfl ?_
  intro p e s m args below meth c s₁ B hml hv
  obtain ⟨ha, hK, hP, hSt⟩ := hv
  have hx := B.exec
  have hb := B.bytes
  have hr := B.returns
  have hts := atoms_spec (ws := fw_ws yX3_spareRow cX3_spareRow 1 (some .int)) B.pre
  have hU : ∀ w ∈ fw_U, w.before args s = true := fun w hw => hts w (List.mem_cons_of_mem _ hw)
  have hown : s.vm.findClass RX3 = some m.cls := findClass_of_methodNamed B.named
  have hlocks := B.notSynchronized
  have EN : ∀ (H : Heap) (locs : List Loc) (ls : Array Slot), fw_P E o d μ H → va_S (fw_A E) s.heap H locs → lv_has ls 1 [(0, .ref (fw_ad E 0 11))] → W p l e (headSpec (fw_ws yX3_spareRow cX3_spareRow 1 (some .int)) ({ frames := 0, cells := 0, slots := 0, locals := 0 } : Room)).room s m args below meth c H locs 0 0 (MQ below (fw_Q E o d (some (.int r)) μ) args s 0 0 (fw_A E)) (F0 m 0 ls []) := by
    intro H locs ls hP hS hl
    unfold f_X3_spareRow at h
    refine lv_aload_n hx hb dX3_spareRow_0 rfl (lv_at hl 0 rfl) ?_
    refine va_get (D := fw_D E) (ci := 4) (v := .int (μ 0 11 1)) (C := RX3) (T := TX3) (N := 3) hx hb hU inU3 hown hK (fw_at hP (fw_V0 (f := 11) (by decide) (by decide))) 0 rfl rfl 1 (by decide) (hU (Cond.fieldLink RX3 17 "LaundryService$History" "newest" "I") m_111) (fun _ h9 => h9) rfl dX3_spareRow_1 ?_
    refine lv_bipush (v := (8 : Int32)) hx hb dX3_spareRow_4 (by decide) ?_
    refine lv_icmp_ne (tgt := 13) hx hb dX3_spareRow_6 (by decide) (fun c1 => ?_) (fun c1 => ?_)
    · rw [if_neg c1] at h
      refine lv_aload_n hx hb dX3_spareRow_13 rfl (lv_at hl 0 rfl) ?_
      refine va_get (D := fw_D E) (ci := 4) (v := .int (μ 0 11 1)) (C := RX3) (T := TX3) (N := 3) hx hb hU inU3 hown hK (fw_at hP (fw_V0 (f := 11) (by decide) (by decide))) 0 rfl rfl 1 (by decide) (hU (Cond.fieldLink RX3 17 "LaundryService$History" "newest" "I") m_111) (fun _ h9 => h9) rfl dX3_spareRow_14 ?_
      refine lv_iconst (v := (1 : Int32)) hx hb dX3_spareRow_17 (by decide) ?_
      refine lv_iadd hx hb dX3_spareRow_18 ?_
      exact W.iret (v := ((μ 0 11 1) + (1 : Int32))) hx hb hr (fw_er (mk := Value.int) h hP hS) hS.2.2 dX3_spareRow_19
    · rw [if_pos c1] at h
      refine lv_iconst (v := (0 : Int32)) hx hb dX3_spareRow_9 (by decide) ?_
      refine lv_goto (tgt := 19) hx hb dX3_spareRow_10 (by decide) ?_
      exact W.iret (v := (0 : Int32)) hx hb hr (fw_er (mk := Value.int) h hP hS) hS.2.2 dX3_spareRow_19
  subst ha
  have hl := lv_entry ([.ref (fw_ad E 0 11)]) (n := 1) (Nat.le_of_ble_eq_true rfl)
  rw [lg_entry_eq]
  generalize (lg_sl ([.ref (fw_ad E 0 11)]) ++ List.replicate (1 - (lg_sl ([.ref (fw_ad E 0 11)])).length) Slot.unset).toArray = ls at hl ⊢
  exact EN s.heap [] ls hP va_S.rf hl
set_option maxHeartbeats 4000000 in
set_option maxRecDepth 100000 in
theorem k_X3_prepare (l : Launch) {E : fw_E} {o : Int64} {d : UInt64} (hE : fw_ok E) {μ μ' : fw_M} {j0 : Nat} (hj0 : j0 < 12) {r : Unit} (h : f_X3_prepare μ j0 = some (μ', r)) : Met l yX3_prepare (fw_ws yX3_prepare cX3_prepare 2 none) ({ frames := 1, cells := 0, slots := 0, locals := 22 } : Room) (va_Pc [.ref (fw_ad E 0 11), .ref (fw_ad E j0 0)] (fw_Pre E o d μ)) (fw_Q E o d none μ') 0 0 (fw_A E) := by
  refine Met.ofW (cc := cX3_prepare) (maxL := 2) (ret := none) (by decide) rfl ?_
  intro p e s m args below meth c s₁ B hml hv
  obtain ⟨ha, hK, hP, hSt⟩ := hv
  have hx := B.exec
  have hb := B.bytes
  have hr := B.returns
  have hts := atoms_spec (ws := fw_ws yX3_prepare cX3_prepare 2 none) B.pre
  have hU : ∀ w ∈ fw_U, w.before args s = true := fun w hw => hts w (List.mem_cons_of_mem _ hw)
  have hown : s.vm.findClass RX3 = some m.cls := findClass_of_methodNamed B.named
  have hlocks := B.notSynchronized
  have EN : ∀ (H : Heap) (locs : List Loc) (ls : Array Slot), fw_P E o d μ H → va_S (fw_A E) s.heap H locs → lv_has ls 2 [(0, .ref (fw_ad E 0 11)), (1, .ref (fw_ad E j0 0))] → W p l e (headSpec (fw_ws yX3_prepare cX3_prepare 2 none) ({ frames := 1, cells := 0, slots := 0, locals := 22 } : Room)).room s m args below meth c H locs 0 0 (MQ below (fw_Q E o d none μ') args s 0 0 (fw_A E)) (F0 m 0 ls []) := by
    intro H locs ls hP hS hl
    unfold f_X3_prepare at h
    refine lv_aload_n hx hb dX3_prepare_0 rfl (lv_at hl 0 rfl) ?_
    refine va_get (D := fw_D E) (ci := 4) (v := .ref (fw_ad E 0 12)) (C := RX3) (T := TX3) (N := 3) hx hb hU inU3 hown hK (fw_at hP (fw_V0 (f := 11) (by decide) (by decide))) 0 rfl rfl 0 (by decide) (hU (Cond.fieldLink RX3 11 "LaundryService$History" "rows" "[LLaundryService$State;") m_110) (fun _ h9 => h9) rfl dX3_prepare_1 ?_
    refine lv_aload_n hx hb dX3_prepare_4 rfl (lv_at hl 0 rfl) ?_
    obtain ⟨r1, hc1, h⟩ := fw_b1_e h
    refine fw_ret (va_runV (As := []) (rest := [.ref (fw_ad E 0 12)]) ⟨hx, hb, hml, hown, hU⟩ (k_X3_spareRow l hE hc1) (cwV 0 hU (fw_gV m_516 m_517 m_518 m_3 m_519) rfl rfl rfl (by decide +kernel) ⟨(Nat.le_of_ble_eq_true rfl), (Nat.le_of_ble_eq_true rfl)⟩) ⟨fw_blind, fw_recv hK hP (fw_V0 (f := 11) (by decide) (by decide)) rfl rfl, fun U hU9 hW9 => ⟨rfl, fw_pre hK hP hSt hS U hU9 hW9⟩⟩ rfl rfl hl.1 rfl (lv_room (Nat.le_of_ble_eq_true rfl)) dX3_prepare_5 ⟨Nat.zero_le _, Nat.zero_le _⟩) hS (fun H locs hP hS => ?_)
    obtain ⟨g2, h⟩ := fw_g_e h
    refine fw_rowld hx hb hK hP (fw_in_e g2) dX3_prepare_8 ?_
    refine lv_aload_n hx hb dX3_prepare_9 rfl (lv_at hl 1 rfl) ?_
    obtain ⟨μ3, r3, hc3, h⟩ := fw_b2_e h
    refine fw_retv (va_runV (As := [.ref (fw_ad E j0 0)]) (rest := []) ⟨hx, hb, hml, hown, hU⟩ (k_X7_copyFrom l hE (fw_row g2) hj0 hc3) (cwV 1 hU (fw_gV m_520 m_283 m_284 m_2 m_285) rfl rfl rfl (by decide +kernel) ⟨(Nat.le_of_ble_eq_true rfl), (Nat.le_of_ble_eq_true rfl)⟩) ⟨fw_blind, fw_recv hK hP (fw_Vs (f := 0) (by decide) (fw_row g2)) rfl rfl, fun U hU9 hW9 => ⟨rfl, fw_pre hK hP hSt hS U hU9 hW9⟩⟩ rfl rfl hl.1 rfl (lv_room (Nat.le_of_ble_eq_true rfl)) dX3_prepare_10 ⟨Nat.zero_le _, Nat.zero_le _⟩) hS (fun H locs hP hS => ?_)
    exact W.vret hx hb hr (fw_ev h hP hS) hS.2.2 dX3_prepare_13
  subst ha
  have hl := lv_entry ([.ref (fw_ad E 0 11), .ref (fw_ad E j0 0)]) (n := 2) (Nat.le_of_ble_eq_true rfl)
  rw [lg_entry_eq]
  generalize (lg_sl ([.ref (fw_ad E 0 11), .ref (fw_ad E j0 0)]) ++ List.replicate (2 - (lg_sl ([.ref (fw_ad E 0 11), .ref (fw_ad E j0 0)])).length) Slot.unset).toArray = ls at hl ⊢
  exact EN s.heap [] ls hP va_S.rf hl
set_option maxHeartbeats 4000000 in
set_option maxRecDepth 100000 in
theorem k_X3_keepPrepared (l : Launch) {E : fw_E} {o : Int64} {d : UInt64} (hE : fw_ok E) {μ μ' : fw_M} {r : Unit} (h : f_X3_keepPrepared μ = some (μ', r)) : Met l yX3_keepPrepared (fw_ws yX3_keepPrepared cX3_keepPrepared 1 none) ({ frames := 1, cells := 0, slots := 0, locals := 21 } : Room) (va_Pc [.ref (fw_ad E 0 11)] (fw_Pre E o d μ)) (fw_Q E o d none μ') 0 0 (fw_A E) := by
  refine Met.ofW (cc := cX3_keepPrepared) (maxL := 1) (ret := none) (by decide) rfl ?_
  intro p e s m args below meth c s₁ B hml hv
  obtain ⟨ha, hK, hP, hSt⟩ := hv
  have hx := B.exec
  have hb := B.bytes
  have hr := B.returns
  have hts := atoms_spec (ws := fw_ws yX3_keepPrepared cX3_keepPrepared 1 none) B.pre
  have hU : ∀ w ∈ fw_U, w.before args s = true := fun w hw => hts w (List.mem_cons_of_mem _ hw)
  have hown : s.vm.findClass RX3 = some m.cls := findClass_of_methodNamed B.named
  have hlocks := B.notSynchronized
  have EN : ∀ (H : Heap) (locs : List Loc) (ls : Array Slot), fw_P E o d μ H → va_S (fw_A E) s.heap H locs → lv_has ls 1 [(0, .ref (fw_ad E 0 11))] → W p l e (headSpec (fw_ws yX3_keepPrepared cX3_keepPrepared 1 none) ({ frames := 1, cells := 0, slots := 0, locals := 21 } : Room)).room s m args below meth c H locs 0 0 (MQ below (fw_Q E o d none μ') args s 0 0 (fw_A E)) (F0 m 0 ls []) := by
    intro H locs ls hP hS hl
    unfold f_X3_keepPrepared at h
    refine lv_aload_n hx hb dX3_keepPrepared_0 rfl (lv_at hl 0 rfl) ?_
    refine lv_aload_n hx hb dX3_keepPrepared_1 rfl (lv_at hl 0 rfl) ?_
    obtain ⟨r1, hc1, h⟩ := fw_b1_e h
    refine fw_ret (va_runV (As := []) (rest := [.ref (fw_ad E 0 11)]) ⟨hx, hb, hml, hown, hU⟩ (k_X3_spareRow l hE hc1) (cwV 0 hU (fw_gV m_516 m_517 m_518 m_3 m_519) rfl rfl rfl (by decide +kernel) ⟨(Nat.le_of_ble_eq_true rfl), (Nat.le_of_ble_eq_true rfl)⟩) ⟨fw_blind, fw_recv hK hP (fw_V0 (f := 11) (by decide) (by decide)) rfl rfl, fun U hU9 hW9 => ⟨rfl, fw_pre hK hP hSt hS U hU9 hW9⟩⟩ rfl rfl hl.1 rfl (lv_room (Nat.le_of_ble_eq_true rfl)) dX3_keepPrepared_2 ⟨Nat.zero_le _, Nat.zero_le _⟩) hS (fun H locs hP hS => ?_)
    refine fw_put (ci := 4) (v := .int r1) (ty := .int) (C := RX3) (T := TX3) (N := 3) hx hb hU inU3 tyX3 tyX3_ok nmX3 hown hK hP hE hS (fw_V0 (f := 11) (by decide) (by decide)) rfl rfl 1 (by decide) (hU (Cond.fieldLink RX3 17 "LaundryService$History" "newest" "I") m_111) (fun _ h9 => h9) rfl (by decide +kernel) rfl rfl (Nat.le_of_ble_eq_true rfl) 1 r1 (by rw [fw_u_c]; rfl) dX3_keepPrepared_5 (fun H locs hP hS => ?_)
    obtain ⟨μ2, eμ2, h⟩ := fw_l_e h
    rw [← eμ2] at hP
    refine lv_aload_n hx hb dX3_keepPrepared_8 rfl (lv_at hl 0 rfl) ?_
    refine lv_aload_n hx hb dX3_keepPrepared_9 rfl (lv_at hl 0 rfl) ?_
    refine va_get (D := fw_D E) (ci := 4) (v := .int (μ2 0 11 2)) (C := RX3) (T := TX3) (N := 3) hx hb hU inU3 hown hK (fw_at hP (fw_V0 (f := 11) (by decide) (by decide))) 0 rfl rfl 2 (by decide) (hU (Cond.fieldLink RX3 21 "LaundryService$History" "count" "I") m_112) (fun _ h9 => h9) rfl dX3_keepPrepared_10 ?_
    refine lv_iconst (v := (1 : Int32)) hx hb dX3_keepPrepared_13 (by decide) ?_
    refine lv_iadd hx hb dX3_keepPrepared_14 ?_
    refine lv_bipush (v := (8 : Int32)) hx hb dX3_keepPrepared_15 (by decide) ?_
    refine va_mmin hx hb (hml.trans hl.1.symm) hown (hU (Cond.methodLink RX3 39 yJ9_min_7cf53) m_525) (hU (Cond.static yJ9_min_7cf53) m_526) (hU (Cond.initialized RJ9) m_20) (hU (Cond.code yJ9_min_7cf53 cJ9_min_7cf53 2 (some .int)) m_527) (Nat.le_of_ble_eq_true rfl) (Nat.le_of_ble_eq_true rfl) (Nat.zero_le _) (Nat.zero_le _) dX3_keepPrepared_17 ?_
    refine fw_put (ci := 4) (v := .int (if (8 : Int32) < ((μ2 0 11 2) + (1 : Int32)) then (8 : Int32) else ((μ2 0 11 2) + (1 : Int32)))) (ty := .int) (C := RX3) (T := TX3) (N := 3) hx hb hU inU3 tyX3 tyX3_ok nmX3 hown hK hP hE hS (fw_V0 (f := 11) (by decide) (by decide)) rfl rfl 2 (by decide) (hU (Cond.fieldLink RX3 21 "LaundryService$History" "count" "I") m_112) (fun _ h9 => h9) rfl (by decide +kernel) rfl rfl (Nat.le_of_ble_eq_true rfl) 2 (if (8 : Int32) < ((μ2 0 11 2) + (1 : Int32)) then (8 : Int32) else ((μ2 0 11 2) + (1 : Int32))) (by rw [fw_u_c]; rfl) dX3_keepPrepared_20 (fun H locs hP hS => ?_)
    obtain ⟨μ3, eμ3, h⟩ := fw_l_e h
    rw [← eμ3] at hP
    exact W.vret hx hb hr (fw_ev h hP hS) hS.2.2 dX3_keepPrepared_23
  subst ha
  have hl := lv_entry ([.ref (fw_ad E 0 11)]) (n := 1) (Nat.le_of_ble_eq_true rfl)
  rw [lg_entry_eq]
  generalize (lg_sl ([.ref (fw_ad E 0 11)]) ++ List.replicate (1 - (lg_sl ([.ref (fw_ad E 0 11)])).length) Slot.unset).toArray = ls at hl ⊢
  exact EN s.heap [] ls hP va_S.rf hl
set_option maxHeartbeats 4000000 in
set_option maxRecDepth 100000 in
theorem k_X3_remember (l : Launch) {E : fw_E} {o : Int64} {d : UInt64} (hE : fw_ok E) {μ μ' : fw_M} {j0 : Nat} (hj0 : j0 < 12) {r : Unit} (h : f_X3_remember μ j0 = some (μ', r)) : Met l yX3_remember (fw_ws yX3_remember cX3_remember 2 none) ({ frames := 2, cells := 0, slots := 0, locals := 43 } : Room) (va_Pc [.ref (fw_ad E 0 11), .ref (fw_ad E j0 0)] (fw_Pre E o d μ)) (fw_Q E o d none μ') 0 0 (fw_A E) := by
  refine Met.ofW (cc := cX3_remember) (maxL := 2) (ret := none) (by decide) rfl ?_
  intro p e s m args below meth c s₁ B hml hv
  obtain ⟨ha, hK, hP, hSt⟩ := hv
  have hx := B.exec
  have hb := B.bytes
  have hr := B.returns
  have hts := atoms_spec (ws := fw_ws yX3_remember cX3_remember 2 none) B.pre
  have hU : ∀ w ∈ fw_U, w.before args s = true := fun w hw => hts w (List.mem_cons_of_mem _ hw)
  have hown : s.vm.findClass RX3 = some m.cls := findClass_of_methodNamed B.named
  have hlocks := B.notSynchronized
  have EN : ∀ (H : Heap) (locs : List Loc) (ls : Array Slot), fw_P E o d μ H → va_S (fw_A E) s.heap H locs → lv_has ls 2 [(0, .ref (fw_ad E 0 11)), (1, .ref (fw_ad E j0 0))] → W p l e (headSpec (fw_ws yX3_remember cX3_remember 2 none) ({ frames := 2, cells := 0, slots := 0, locals := 43 } : Room)).room s m args below meth c H locs 0 0 (MQ below (fw_Q E o d none μ') args s 0 0 (fw_A E)) (F0 m 0 ls []) := by
    intro H locs ls hP hS hl
    unfold f_X3_remember at h
    refine lv_aload_n hx hb dX3_remember_0 rfl (lv_at hl 0 rfl) ?_
    refine lv_aload_n hx hb dX3_remember_1 rfl (lv_at hl 1 rfl) ?_
    obtain ⟨μ1, r1, hc1, h⟩ := fw_b2_e h
    refine fw_retv (va_runV (As := [.ref (fw_ad E j0 0)]) (rest := []) ⟨hx, hb, hml, hown, hU⟩ (k_X3_prepare l hE hj0 hc1) (cwV 1 hU (fw_gV m_512 m_513 m_514 m_3 m_515) rfl rfl rfl (by decide +kernel) ⟨(Nat.le_of_ble_eq_true rfl), (Nat.le_of_ble_eq_true rfl)⟩) ⟨fw_blind, fw_recv hK hP (fw_V0 (f := 11) (by decide) (by decide)) rfl rfl, fun U hU9 hW9 => ⟨rfl, fw_pre hK hP hSt hS U hU9 hW9⟩⟩ rfl rfl hl.1 rfl (lv_room (Nat.le_of_ble_eq_true rfl)) dX3_remember_2 ⟨Nat.zero_le _, Nat.zero_le _⟩) hS (fun H locs hP hS => ?_)
    refine lv_aload_n hx hb dX3_remember_5 rfl (lv_at hl 0 rfl) ?_
    obtain ⟨μ2, r2, hc2, h⟩ := fw_b2_e h
    refine fw_retv (va_runV (As := []) (rest := []) ⟨hx, hb, hml, hown, hU⟩ (k_X3_keepPrepared l hE hc2) (cwV 0 hU (fw_gV m_521 m_522 m_523 m_3 m_524) rfl rfl rfl (by decide +kernel) ⟨(Nat.le_of_ble_eq_true rfl), (Nat.le_of_ble_eq_true rfl)⟩) ⟨fw_blind, fw_recv hK hP (fw_V0 (f := 11) (by decide) (by decide)) rfl rfl, fun U hU9 hW9 => ⟨rfl, fw_pre hK hP hSt hS U hU9 hW9⟩⟩ rfl rfl hl.1 rfl (lv_room (Nat.le_of_ble_eq_true rfl)) dX3_remember_6 ⟨Nat.zero_le _, Nat.zero_le _⟩) hS (fun H locs hP hS => ?_)
    exact W.vret hx hb hr (fw_ev h hP hS) hS.2.2 dX3_remember_9
  subst ha
  have hl := lv_entry ([.ref (fw_ad E 0 11), .ref (fw_ad E j0 0)]) (n := 2) (Nat.le_of_ble_eq_true rfl)
  rw [lg_entry_eq]
  generalize (lg_sl ([.ref (fw_ad E 0 11), .ref (fw_ad E j0 0)]) ++ List.replicate (2 - (lg_sl ([.ref (fw_ad E 0 11), .ref (fw_ad E j0 0)])).length) Slot.unset).toArray = ls at hl ⊢
  exact EN s.heap [] ls hP va_S.rf hl
set_option maxHeartbeats 4000000 in
set_option maxRecDepth 100000 in
theorem k_X3_takePreparedBack (l : Launch) {E : fw_E} {o : Int64} {d : UInt64} (hE : fw_ok E) {μ μ' : fw_M} {j0 : Nat} (hj0 : j0 < 12) {r : Unit} (h : f_X3_takePreparedBack μ j0 = some (μ', r)) : Met l yX3_takePreparedBack (fw_ws yX3_takePreparedBack cX3_takePreparedBack 2 none) ({ frames := 1, cells := 0, slots := 0, locals := 22 } : Room) (va_Pc [.ref (fw_ad E 0 11), .ref (fw_ad E j0 0)] (fw_Pre E o d μ)) (fw_Q E o d none μ') 0 0 (fw_A E) := by
  refine Met.ofW (cc := cX3_takePreparedBack) (maxL := 2) (ret := none) (by decide) rfl ?_
  intro p e s m args below meth c s₁ B hml hv
  obtain ⟨ha, hK, hP, hSt⟩ := hv
  have hx := B.exec
  have hb := B.bytes
  have hr := B.returns
  have hts := atoms_spec (ws := fw_ws yX3_takePreparedBack cX3_takePreparedBack 2 none) B.pre
  have hU : ∀ w ∈ fw_U, w.before args s = true := fun w hw => hts w (List.mem_cons_of_mem _ hw)
  have hown : s.vm.findClass RX3 = some m.cls := findClass_of_methodNamed B.named
  have hlocks := B.notSynchronized
  have EN : ∀ (H : Heap) (locs : List Loc) (ls : Array Slot), fw_P E o d μ H → va_S (fw_A E) s.heap H locs → lv_has ls 2 [(0, .ref (fw_ad E 0 11)), (1, .ref (fw_ad E j0 0))] → W p l e (headSpec (fw_ws yX3_takePreparedBack cX3_takePreparedBack 2 none) ({ frames := 1, cells := 0, slots := 0, locals := 22 } : Room)).room s m args below meth c H locs 0 0 (MQ below (fw_Q E o d none μ') args s 0 0 (fw_A E)) (F0 m 0 ls []) := by
    intro H locs ls hP hS hl
    unfold f_X3_takePreparedBack at h
    refine lv_aload_n hx hb dX3_takePreparedBack_0 rfl (lv_at hl 1 rfl) ?_
    refine lv_aload_n hx hb dX3_takePreparedBack_1 rfl (lv_at hl 0 rfl) ?_
    refine va_get (D := fw_D E) (ci := 4) (v := .ref (fw_ad E 0 12)) (C := RX3) (T := TX3) (N := 3) hx hb hU inU3 hown hK (fw_at hP (fw_V0 (f := 11) (by decide) (by decide))) 0 rfl rfl 0 (by decide) (hU (Cond.fieldLink RX3 11 "LaundryService$History" "rows" "[LLaundryService$State;") m_110) (fun _ h9 => h9) rfl dX3_takePreparedBack_2 ?_
    refine lv_aload_n hx hb dX3_takePreparedBack_5 rfl (lv_at hl 0 rfl) ?_
    obtain ⟨r1, hc1, h⟩ := fw_b1_e h
    refine fw_ret (va_runV (As := []) (rest := [.ref (fw_ad E 0 12), .ref (fw_ad E j0 0)]) ⟨hx, hb, hml, hown, hU⟩ (k_X3_spareRow l hE hc1) (cwV 0 hU (fw_gV m_516 m_517 m_518 m_3 m_519) rfl rfl rfl (by decide +kernel) ⟨(Nat.le_of_ble_eq_true rfl), (Nat.le_of_ble_eq_true rfl)⟩) ⟨fw_blind, fw_recv hK hP (fw_V0 (f := 11) (by decide) (by decide)) rfl rfl, fun U hU9 hW9 => ⟨rfl, fw_pre hK hP hSt hS U hU9 hW9⟩⟩ rfl rfl hl.1 rfl (lv_room (Nat.le_of_ble_eq_true rfl)) dX3_takePreparedBack_6 ⟨Nat.zero_le _, Nat.zero_le _⟩) hS (fun H locs hP hS => ?_)
    obtain ⟨g2, h⟩ := fw_g_e h
    refine fw_rowld hx hb hK hP (fw_in_e g2) dX3_takePreparedBack_9 ?_
    obtain ⟨μ3, r3, hc3, h⟩ := fw_b2_e h
    refine fw_retv (va_runV (As := [.ref (fw_ad E (3 + r1.toNatClampNeg) 0)]) (rest := []) ⟨hx, hb, hml, hown, hU⟩ (k_X7_copyFrom l hE hj0 (fw_row g2) hc3) (cwV 1 hU (fw_gV m_520 m_283 m_284 m_2 m_285) rfl rfl rfl (by decide +kernel) ⟨(Nat.le_of_ble_eq_true rfl), (Nat.le_of_ble_eq_true rfl)⟩) ⟨fw_blind, fw_recv hK hP (fw_Vs (f := 0) (by decide) hj0) rfl rfl, fun U hU9 hW9 => ⟨rfl, fw_pre hK hP hSt hS U hU9 hW9⟩⟩ rfl rfl hl.1 rfl (lv_room (Nat.le_of_ble_eq_true rfl)) dX3_takePreparedBack_10 ⟨Nat.zero_le _, Nat.zero_le _⟩) hS (fun H locs hP hS => ?_)
    exact W.vret hx hb hr (fw_ev h hP hS) hS.2.2 dX3_takePreparedBack_13
  subst ha
  have hl := lv_entry ([.ref (fw_ad E 0 11), .ref (fw_ad E j0 0)]) (n := 2) (Nat.le_of_ble_eq_true rfl)
  rw [lg_entry_eq]
  generalize (lg_sl ([.ref (fw_ad E 0 11), .ref (fw_ad E j0 0)]) ++ List.replicate (2 - (lg_sl ([.ref (fw_ad E 0 11), .ref (fw_ad E j0 0)])).length) Slot.unset).toArray = ls at hl ⊢
  exact EN s.heap [] ls hP va_S.rf hl
set_option maxHeartbeats 4000000 in
set_option maxRecDepth 100000 in
theorem k_X3_stepBack (l : Launch) {E : fw_E} {o : Int64} {d : UInt64} (hE : fw_ok E) {μ μ' : fw_M} {j0 : Nat} (hj0 : j0 < 12) {r : Unit} (h : f_X3_stepBack μ j0 = some (μ', r)) : Met l yX3_stepBack (fw_ws yX3_stepBack cX3_stepBack 2 none) ({ frames := 1, cells := 0, slots := 0, locals := 22 } : Room) (va_Pc [.ref (fw_ad E 0 11), .ref (fw_ad E j0 0)] (fw_Pre E o d μ)) (fw_Q E o d none μ') 0 0 (fw_A E) := by
  refine Met.ofW (cc := cX3_stepBack) (maxL := 2) (ret := none) (by decide) rfl ?_
  intro p e s m args below meth c s₁ B hml hv
  obtain ⟨ha, hK, hP, hSt⟩ := hv
  have hx := B.exec
  have hb := B.bytes
  have hr := B.returns
  have hts := atoms_spec (ws := fw_ws yX3_stepBack cX3_stepBack 2 none) B.pre
  have hU : ∀ w ∈ fw_U, w.before args s = true := fun w hw => hts w (List.mem_cons_of_mem _ hw)
  have hown : s.vm.findClass RX3 = some m.cls := findClass_of_methodNamed B.named
  have hlocks := B.notSynchronized
  have EN : ∀ (H : Heap) (locs : List Loc) (ls : Array Slot), fw_P E o d μ H → va_S (fw_A E) s.heap H locs → lv_has ls 2 [(0, .ref (fw_ad E 0 11)), (1, .ref (fw_ad E j0 0))] → W p l e (headSpec (fw_ws yX3_stepBack cX3_stepBack 2 none) ({ frames := 1, cells := 0, slots := 0, locals := 22 } : Room)).room s m args below meth c H locs 0 0 (MQ below (fw_Q E o d none μ') args s 0 0 (fw_A E)) (F0 m 0 ls []) := by
    intro H locs ls hP hS hl
    unfold f_X3_stepBack at h
    refine lv_aload_n hx hb dX3_stepBack_0 rfl (lv_at hl 1 rfl) ?_
    refine lv_aload_n hx hb dX3_stepBack_1 rfl (lv_at hl 0 rfl) ?_
    refine va_get (D := fw_D E) (ci := 4) (v := .ref (fw_ad E 0 12)) (C := RX3) (T := TX3) (N := 3) hx hb hU inU3 hown hK (fw_at hP (fw_V0 (f := 11) (by decide) (by decide))) 0 rfl rfl 0 (by decide) (hU (Cond.fieldLink RX3 11 "LaundryService$History" "rows" "[LLaundryService$State;") m_110) (fun _ h9 => h9) rfl dX3_stepBack_2 ?_
    refine lv_aload_n hx hb dX3_stepBack_5 rfl (lv_at hl 0 rfl) ?_
    refine va_get (D := fw_D E) (ci := 4) (v := .int (μ 0 11 1)) (C := RX3) (T := TX3) (N := 3) hx hb hU inU3 hown hK (fw_at hP (fw_V0 (f := 11) (by decide) (by decide))) 0 rfl rfl 1 (by decide) (hU (Cond.fieldLink RX3 17 "LaundryService$History" "newest" "I") m_111) (fun _ h9 => h9) rfl dX3_stepBack_6 ?_
    obtain ⟨g1, h⟩ := fw_g_e h
    refine fw_rowld hx hb hK hP (fw_in_e g1) dX3_stepBack_9 ?_
    obtain ⟨μ2, r2, hc2, h⟩ := fw_b2_e h
    refine fw_retv (va_runV (As := [.ref (fw_ad E (3 + (μ 0 11 1).toNatClampNeg) 0)]) (rest := []) ⟨hx, hb, hml, hown, hU⟩ (k_X7_copyFrom l hE hj0 (fw_row g1) hc2) (cwV 1 hU (fw_gV m_520 m_283 m_284 m_2 m_285) rfl rfl rfl (by decide +kernel) ⟨(Nat.le_of_ble_eq_true rfl), (Nat.le_of_ble_eq_true rfl)⟩) ⟨fw_blind, fw_recv hK hP (fw_Vs (f := 0) (by decide) hj0) rfl rfl, fun U hU9 hW9 => ⟨rfl, fw_pre hK hP hSt hS U hU9 hW9⟩⟩ rfl rfl hl.1 rfl (lv_room (Nat.le_of_ble_eq_true rfl)) dX3_stepBack_10 ⟨Nat.zero_le _, Nat.zero_le _⟩) hS (fun H locs hP hS => ?_)
    refine lv_aload_n hx hb dX3_stepBack_13 rfl (lv_at hl 0 rfl) ?_
    refine lv_aload_n hx hb dX3_stepBack_14 rfl (lv_at hl 0 rfl) ?_
    refine va_get (D := fw_D E) (ci := 4) (v := .int (μ2 0 11 1)) (C := RX3) (T := TX3) (N := 3) hx hb hU inU3 hown hK (fw_at hP (fw_V0 (f := 11) (by decide) (by decide))) 0 rfl rfl 1 (by decide) (hU (Cond.fieldLink RX3 17 "LaundryService$History" "newest" "I") m_111) (fun _ h9 => h9) rfl dX3_stepBack_15 ?_
    refine lv_if_ne (tgt := 26) hx hb dX3_stepBack_18 (by decide) (fun c3 => ?_) (fun c3 => ?_)
    · rw [if_neg c3] at h
      refine lv_aload_n hx hb dX3_stepBack_26 rfl (lv_at hl 0 rfl) ?_
      refine va_get (D := fw_D E) (ci := 4) (v := .int (μ2 0 11 1)) (C := RX3) (T := TX3) (N := 3) hx hb hU inU3 hown hK (fw_at hP (fw_V0 (f := 11) (by decide) (by decide))) 0 rfl rfl 1 (by decide) (hU (Cond.fieldLink RX3 17 "LaundryService$History" "newest" "I") m_111) (fun _ h9 => h9) rfl dX3_stepBack_27 ?_
      refine lv_iconst (v := (1 : Int32)) hx hb dX3_stepBack_30 (by decide) ?_
      refine lv_isub hx hb dX3_stepBack_31 ?_
      refine fw_put (ci := 4) (v := .int ((μ2 0 11 1) - (1 : Int32))) (ty := .int) (C := RX3) (T := TX3) (N := 3) hx hb hU inU3 tyX3 tyX3_ok nmX3 hown hK hP hE hS (fw_V0 (f := 11) (by decide) (by decide)) rfl rfl 1 (by decide) (hU (Cond.fieldLink RX3 17 "LaundryService$History" "newest" "I") m_111) (fun _ h9 => h9) rfl (by decide +kernel) rfl rfl (Nat.le_of_ble_eq_true rfl) 1 ((μ2 0 11 1) - (1 : Int32)) (by rw [fw_u_c]; rfl) dX3_stepBack_32 (fun H locs hP hS => ?_)
      obtain ⟨μ6, eμ6, h⟩ := fw_l_e h
      rw [← eμ6] at hP
      refine lv_aload_n hx hb dX3_stepBack_35 rfl (lv_at hl 0 rfl) ?_
      refine lv_dup hx hb dX3_stepBack_36 rfl ?_
      refine va_get (D := fw_D E) (ci := 4) (v := .int (μ6 0 11 2)) (C := RX3) (T := TX3) (N := 3) hx hb hU inU3 hown hK (fw_at hP (fw_V0 (f := 11) (by decide) (by decide))) 0 rfl rfl 2 (by decide) (hU (Cond.fieldLink RX3 21 "LaundryService$History" "count" "I") m_112) (fun _ h9 => h9) rfl dX3_stepBack_37 ?_
      refine lv_iconst (v := (1 : Int32)) hx hb dX3_stepBack_40 (by decide) ?_
      refine lv_isub hx hb dX3_stepBack_41 ?_
      refine fw_put (ci := 4) (v := .int ((μ6 0 11 2) - (1 : Int32))) (ty := .int) (C := RX3) (T := TX3) (N := 3) hx hb hU inU3 tyX3 tyX3_ok nmX3 hown hK hP hE hS (fw_V0 (f := 11) (by decide) (by decide)) rfl rfl 2 (by decide) (hU (Cond.fieldLink RX3 21 "LaundryService$History" "count" "I") m_112) (fun _ h9 => h9) rfl (by decide +kernel) rfl rfl (Nat.le_of_ble_eq_true rfl) 2 ((μ6 0 11 2) - (1 : Int32)) (by rw [fw_u_c]; rfl) dX3_stepBack_42 (fun H locs hP hS => ?_)
      obtain ⟨μ7, eμ7, h⟩ := fw_l_e h
      rw [← eμ7] at hP
      exact W.vret hx hb hr (fw_ev h hP hS) hS.2.2 dX3_stepBack_45
    · rw [if_pos c3] at h
      refine lv_bipush (v := (8 : Int32)) hx hb dX3_stepBack_21 (by decide) ?_
      refine lv_goto (tgt := 32) hx hb dX3_stepBack_23 (by decide) ?_
      refine fw_put (ci := 4) (v := .int (8 : Int32)) (ty := .int) (C := RX3) (T := TX3) (N := 3) hx hb hU inU3 tyX3 tyX3_ok nmX3 hown hK hP hE hS (fw_V0 (f := 11) (by decide) (by decide)) rfl rfl 1 (by decide) (hU (Cond.fieldLink RX3 17 "LaundryService$History" "newest" "I") m_111) (fun _ h9 => h9) rfl (by decide +kernel) rfl rfl (Nat.le_of_ble_eq_true rfl) 1 (8 : Int32) (by rw [fw_u_c]; rfl) dX3_stepBack_32 (fun H locs hP hS => ?_)
      obtain ⟨μ4, eμ4, h⟩ := fw_l_e h
      rw [← eμ4] at hP
      refine lv_aload_n hx hb dX3_stepBack_35 rfl (lv_at hl 0 rfl) ?_
      refine lv_dup hx hb dX3_stepBack_36 rfl ?_
      refine va_get (D := fw_D E) (ci := 4) (v := .int (μ4 0 11 2)) (C := RX3) (T := TX3) (N := 3) hx hb hU inU3 hown hK (fw_at hP (fw_V0 (f := 11) (by decide) (by decide))) 0 rfl rfl 2 (by decide) (hU (Cond.fieldLink RX3 21 "LaundryService$History" "count" "I") m_112) (fun _ h9 => h9) rfl dX3_stepBack_37 ?_
      refine lv_iconst (v := (1 : Int32)) hx hb dX3_stepBack_40 (by decide) ?_
      refine lv_isub hx hb dX3_stepBack_41 ?_
      refine fw_put (ci := 4) (v := .int ((μ4 0 11 2) - (1 : Int32))) (ty := .int) (C := RX3) (T := TX3) (N := 3) hx hb hU inU3 tyX3 tyX3_ok nmX3 hown hK hP hE hS (fw_V0 (f := 11) (by decide) (by decide)) rfl rfl 2 (by decide) (hU (Cond.fieldLink RX3 21 "LaundryService$History" "count" "I") m_112) (fun _ h9 => h9) rfl (by decide +kernel) rfl rfl (Nat.le_of_ble_eq_true rfl) 2 ((μ4 0 11 2) - (1 : Int32)) (by rw [fw_u_c]; rfl) dX3_stepBack_42 (fun H locs hP hS => ?_)
      obtain ⟨μ5, eμ5, h⟩ := fw_l_e h
      rw [← eμ5] at hP
      exact W.vret hx hb hr (fw_ev h hP hS) hS.2.2 dX3_stepBack_45
  subst ha
  have hl := lv_entry ([.ref (fw_ad E 0 11), .ref (fw_ad E j0 0)]) (n := 2) (Nat.le_of_ble_eq_true rfl)
  rw [lg_entry_eq]
  generalize (lg_sl ([.ref (fw_ad E 0 11), .ref (fw_ad E j0 0)]) ++ List.replicate (2 - (lg_sl ([.ref (fw_ad E 0 11), .ref (fw_ad E j0 0)])).length) Slot.unset).toArray = ls at hl ⊢
  exact EN s.heap [] ls hP va_S.rf hl
set_option maxHeartbeats 4000000 in
set_option maxRecDepth 100000 in
theorem k_X3_forget (l : Launch) {E : fw_E} {o : Int64} {d : UInt64} (hE : fw_ok E) {μ μ' : fw_M} {r : Unit} (h : f_X3_forget μ = some (μ', r)) : Met l yX3_forget (fw_ws yX3_forget cX3_forget 1 none) ({ frames := 0, cells := 0, slots := 0, locals := 0 } : Room) (va_Pc [.ref (fw_ad E 0 11)] (fw_Pre E o d μ)) (fw_Q E o d none μ') 0 0 (fw_A E) := by
  refine Met.ofW (cc := cX3_forget) (maxL := 1) (ret := none) (by decide) rfl ?_
  intro p e s m args below meth c s₁ B hml hv
  obtain ⟨ha, hK, hP, hSt⟩ := hv
  have hx := B.exec
  have hb := B.bytes
  have hr := B.returns
  have hts := atoms_spec (ws := fw_ws yX3_forget cX3_forget 1 none) B.pre
  have hU : ∀ w ∈ fw_U, w.before args s = true := fun w hw => hts w (List.mem_cons_of_mem _ hw)
  have hown : s.vm.findClass RX3 = some m.cls := findClass_of_methodNamed B.named
  have hlocks := B.notSynchronized
  have EN : ∀ (H : Heap) (locs : List Loc) (ls : Array Slot), fw_P E o d μ H → va_S (fw_A E) s.heap H locs → lv_has ls 1 [(0, .ref (fw_ad E 0 11))] → W p l e (headSpec (fw_ws yX3_forget cX3_forget 1 none) ({ frames := 0, cells := 0, slots := 0, locals := 0 } : Room)).room s m args below meth c H locs 0 0 (MQ below (fw_Q E o d none μ') args s 0 0 (fw_A E)) (F0 m 0 ls []) := by
    intro H locs ls hP hS hl
    unfold f_X3_forget at h
    refine lv_aload_n hx hb dX3_forget_0 rfl (lv_at hl 0 rfl) ?_
    refine lv_iconst (v := (0 : Int32)) hx hb dX3_forget_1 (by decide) ?_
    refine fw_put (ci := 4) (v := .int (0 : Int32)) (ty := .int) (C := RX3) (T := TX3) (N := 3) hx hb hU inU3 tyX3 tyX3_ok nmX3 hown hK hP hE hS (fw_V0 (f := 11) (by decide) (by decide)) rfl rfl 2 (by decide) (hU (Cond.fieldLink RX3 21 "LaundryService$History" "count" "I") m_112) (fun _ h9 => h9) rfl (by decide +kernel) rfl rfl (Nat.le_of_ble_eq_true rfl) 2 (0 : Int32) (by rw [fw_u_c]; rfl) dX3_forget_2 (fun H locs hP hS => ?_)
    obtain ⟨μ1, eμ1, h⟩ := fw_l_e h
    rw [← eμ1] at hP
    exact W.vret hx hb hr (fw_ev h hP hS) hS.2.2 dX3_forget_5
  subst ha
  have hl := lv_entry ([.ref (fw_ad E 0 11)]) (n := 1) (Nat.le_of_ble_eq_true rfl)
  rw [lg_entry_eq]
  generalize (lg_sl ([.ref (fw_ad E 0 11)]) ++ List.replicate (1 - (lg_sl ([.ref (fw_ad E 0 11)])).length) Slot.unset).toArray = ls at hl ⊢
  exact EN s.heap [] ls hP va_S.rf hl
