/-! contracts, laid by wip/whole/lay.py out of the bytecode listing -/
set_option maxHeartbeats 4000000 in
set_option maxRecDepth 100000 in
theorem k_X10_stains (l : Launch) {E : fw_E} {o : Int64} {d : UInt64} (hE : fw_ok E) {μ μ' : fw_M} (x1 : Int32) {r : Int32} (h : f_X10_stains μ x1 = some (μ', r)) : Met l yX10_stains (fw_ws yX10_stains cX10_stains 2 (some .int)) ({ frames := 3, cells := 0, slots := 0, locals := 65 } : Room) (va_Pc [.ref (fw_ad E 0 18), .int x1] (fw_Pre E o d μ)) (fw_Q E o d (some (.int r)) μ') 0 0 (fw_A E) := by
  refine Met.ofW (cc := cX10_stains) (maxL := 2) (ret := (some .int)) (by decide) rfl ?_
  intro p e s m args below meth c s₁ B hml hv
  obtain ⟨ha, hK, hP, hSt⟩ := hv
  have hx := B.exec
  have hb := B.bytes
  have hr := B.returns
  have hts := atoms_spec (ws := fw_ws yX10_stains cX10_stains 2 (some .int)) B.pre
  have hU : ∀ w ∈ fw_U, w.before args s = true := fun w hw => hts w (List.mem_cons_of_mem _ hw)
  have hown : s.vm.findClass RX10 = some m.cls := findClass_of_methodNamed B.named
  have hlocks := B.notSynchronized
  have EN : ∀ (H : Heap) (locs : List Loc) (ls : Array Slot), fw_P E o d μ H → va_S (fw_A E) s.heap H locs → lv_has ls 2 [(0, .ref (fw_ad E 0 18)), (1, .int x1)] → W p l e (headSpec (fw_ws yX10_stains cX10_stains 2 (some .int)) ({ frames := 3, cells := 0, slots := 0, locals := 65 } : Room)).room s m args below meth c H locs 0 0 (MQ below (fw_Q E o d (some (.int r)) μ') args s 0 0 (fw_A E)) (F0 m 0 ls []) := by
    intro H locs ls hP hS hl
    unfold f_X10_stains at h
    refine lv_aload_n hx hb dX10_stains_0 rfl (lv_at hl 0 rfl) ?_
    refine lv_iload_n hx hb dX10_stains_1 rfl (lv_at hl 1 rfl) ?_
    refine lv_iconst (v := (3 : Int32)) hx hb dX10_stains_2 (by decide) ?_
    obtain ⟨μ1, r1, hc1, h⟩ := fw_b2_e h
    refine fw_ret (va_runV (As := [.int x1, .int (3 : Int32)]) (rest := []) ⟨hx, hb, hml, hown, hU⟩ (k_X10_asked l hE x1 (3 : Int32) hc1) (cwV 2 hU (fw_gV m_1334 m_1336 ms_35 m_9 m_1337) rfl rfl rfl (by decide +kernel) ⟨(Nat.le_of_ble_eq_true rfl), (Nat.le_of_ble_eq_true rfl)⟩) ⟨fw_blind, fw_recv hK hP (fw_V0 (f := 18) (by decide) (by decide)) rfl rfl, fun U hU9 hW9 => ⟨rfl, fw_pre hK hP hSt hS U hU9 hW9⟩⟩ rfl rfl hl.1 rfl (lv_room (Nat.le_of_ble_eq_true rfl)) dX10_stains_3 ⟨Nat.zero_le _, Nat.zero_le _⟩) hS (fun H locs hP hS => ?_)
    exact W.iret (v := r1) hx hb hr (fw_ew (mk := Value.int) h hP hS) hS.2.2 dX10_stains_6
  subst ha
  have hl := lv_entry ([.ref (fw_ad E 0 18), .int x1]) (n := 2) (Nat.le_of_ble_eq_true rfl)
  rw [lg_entry_eq]
  generalize (lg_sl ([.ref (fw_ad E 0 18), .int x1]) ++ List.replicate (2 - (lg_sl ([.ref (fw_ad E 0 18), .int x1])).length) Slot.unset).toArray = ls at hl ⊢
  exact EN s.heap [] ls hP va_S.rf hl
set_option maxHeartbeats 4000000 in
set_option maxRecDepth 100000 in
theorem k_X10_stainCount (l : Launch) {E : fw_E} {o : Int64} {d : UInt64} (hE : fw_ok E) {μ μ' : fw_M} (x1 : Int32) {r : Int32} (h : f_X10_stainCount μ x1 = some (μ', r)) : Met l yX10_stainCount (fw_ws yX10_stainCount cX10_stainCount 2 (some .int)) ({ frames := 3, cells := 0, slots := 0, locals := 65 } : Room) (va_Pc [.ref (fw_ad E 0 18), .int x1] (fw_Pre E o d μ)) (fw_Q E o d (some (.int r)) μ') 0 0 (fw_A E) := by
  refine Met.ofW (cc := cX10_stainCount) (maxL := 2) (ret := (some .int)) (by decide) rfl ?_
  intro p e s m args below meth c s₁ B hml hv
  obtain ⟨ha, hK, hP, hSt⟩ := hv
  have hx := B.exec
  have hb := B.bytes
  have hr := B.returns
  have hts := atoms_spec (ws := fw_ws yX10_stainCount cX10_stainCount 2 (some .int)) B.pre
  have hU : ∀ w ∈ fw_U, w.before args s = true := fun w hw => hts w (List.mem_cons_of_mem _ hw)
  have hown : s.vm.findClass RX10 = some m.cls := findClass_of_methodNamed B.named
  have hlocks := B.notSynchronized
  have EN : ∀ (H : Heap) (locs : List Loc) (ls : Array Slot), fw_P E o d μ H → va_S (fw_A E) s.heap H locs → lv_has ls 2 [(0, .ref (fw_ad E 0 18)), (1, .int x1)] → W p l e (headSpec (fw_ws yX10_stainCount cX10_stainCount 2 (some .int)) ({ frames := 3, cells := 0, slots := 0, locals := 65 } : Room)).room s m args below meth c H locs 0 0 (MQ below (fw_Q E o d (some (.int r)) μ') args s 0 0 (fw_A E)) (F0 m 0 ls []) := by
    intro H locs ls hP hS hl
    unfold f_X10_stainCount at h
    refine lv_aload_n hx hb dX10_stainCount_0 rfl (lv_at hl 0 rfl) ?_
    refine lv_iload_n hx hb dX10_stainCount_1 rfl (lv_at hl 1 rfl) ?_
    refine lv_iconst (v := (3 : Int32)) hx hb dX10_stainCount_2 (by decide) ?_
    obtain ⟨μ1, r1, hc1, h⟩ := fw_b2_e h
    refine fw_ret (va_runV (As := [.int x1, .int (3 : Int32)]) (rest := []) ⟨hx, hb, hml, hown, hU⟩ (k_X10_asked l hE x1 (3 : Int32) hc1) (cwV 2 hU (fw_gV m_1334 m_1336 ms_35 m_9 m_1337) rfl rfl rfl (by decide +kernel) ⟨(Nat.le_of_ble_eq_true rfl), (Nat.le_of_ble_eq_true rfl)⟩) ⟨fw_blind, fw_recv hK hP (fw_V0 (f := 18) (by decide) (by decide)) rfl rfl, fun U hU9 hW9 => ⟨rfl, fw_pre hK hP hSt hS U hU9 hW9⟩⟩ rfl rfl hl.1 rfl (lv_room (Nat.le_of_ble_eq_true rfl)) dX10_stainCount_3 ⟨Nat.zero_le _, Nat.zero_le _⟩) hS (fun H locs hP hS => ?_)
    obtain ⟨r2, hc2, h⟩ := fw_b1_e h
    refine fw_ret (va_runS (As := [.int r1]) (rest := []) ⟨hx, hb, hml, hown, hU⟩ (k_X10_bits l hE r1 hc2) (va_cwS 1 hU (fw_gS m_1354 m_1355 m_9 m_1356) rfl rfl rfl (by decide +kernel) ⟨(Nat.le_of_ble_eq_true rfl), (Nat.le_of_ble_eq_true rfl)⟩) ⟨fw_blind, fun U hU9 hW9 => ⟨rfl, fw_pre hK hP hSt hS U hU9 hW9⟩⟩ rfl rfl hl.1 rfl (lv_room (Nat.le_of_ble_eq_true rfl)) dX10_stainCount_6 ⟨Nat.zero_le _, Nat.zero_le _⟩) hS (fun H locs hP hS => ?_)
    exact W.iret (v := r2) hx hb hr (fw_ew (mk := Value.int) h hP hS) hS.2.2 dX10_stainCount_9
  subst ha
  have hl := lv_entry ([.ref (fw_ad E 0 18), .int x1]) (n := 2) (Nat.le_of_ble_eq_true rfl)
  rw [lg_entry_eq]
  generalize (lg_sl ([.ref (fw_ad E 0 18), .int x1]) ++ List.replicate (2 - (lg_sl ([.ref (fw_ad E 0 18), .int x1])).length) Slot.unset).toArray = ls at hl ⊢
  exact EN s.heap [] ls hP va_S.rf hl
set_option maxHeartbeats 4000000 in
set_option maxRecDepth 100000 in
theorem k_X10_washes (l : Launch) {E : fw_E} {o : Int64} {d : UInt64} (hE : fw_ok E) {μ μ' : fw_M} (x1 : Int32) {r : Int32} (h : f_X10_washes μ x1 = some (μ', r)) : Met l yX10_washes (fw_ws yX10_washes cX10_washes 2 (some .int)) ({ frames := 3, cells := 0, slots := 0, locals := 65 } : Room) (va_Pc [.ref (fw_ad E 0 18), .int x1] (fw_Pre E o d μ)) (fw_Q E o d (some (.int r)) μ') 0 0 (fw_A E) := by
  refine Met.ofW (cc := cX10_washes) (maxL := 2) (ret := (some .int)) (by decide) rfl ?_
  intro p e s m args below meth c s₁ B hml hv
  obtain ⟨ha, hK, hP, hSt⟩ := hv
  have hx := B.exec
  have hb := B.bytes
  have hr := B.returns
  have hts := atoms_spec (ws := fw_ws yX10_washes cX10_washes 2 (some .int)) B.pre
  have hU : ∀ w ∈ fw_U, w.before args s = true := fun w hw => hts w (List.mem_cons_of_mem _ hw)
  have hown : s.vm.findClass RX10 = some m.cls := findClass_of_methodNamed B.named
  have hlocks := B.notSynchronized
  have EN : ∀ (H : Heap) (locs : List Loc) (ls : Array Slot), fw_P E o d μ H → va_S (fw_A E) s.heap H locs → lv_has ls 2 [(0, .ref (fw_ad E 0 18)), (1, .int x1)] → W p l e (headSpec (fw_ws yX10_washes cX10_washes 2 (some .int)) ({ frames := 3, cells := 0, slots := 0, locals := 65 } : Room)).room s m args below meth c H locs 0 0 (MQ below (fw_Q E o d (some (.int r)) μ') args s 0 0 (fw_A E)) (F0 m 0 ls []) := by
    intro H locs ls hP hS hl
    unfold f_X10_washes at h
    refine lv_aload_n hx hb dX10_washes_0 rfl (lv_at hl 0 rfl) ?_
    refine lv_iload_n hx hb dX10_washes_1 rfl (lv_at hl 1 rfl) ?_
    refine lv_iconst (v := (5 : Int32)) hx hb dX10_washes_2 (by decide) ?_
    obtain ⟨μ1, r1, hc1, h⟩ := fw_b2_e h
    refine fw_ret (va_runV (As := [.int x1, .int (5 : Int32)]) (rest := []) ⟨hx, hb, hml, hown, hU⟩ (k_X10_asked l hE x1 (5 : Int32) hc1) (cwV 2 hU (fw_gV m_1334 m_1336 ms_35 m_9 m_1337) rfl rfl rfl (by decide +kernel) ⟨(Nat.le_of_ble_eq_true rfl), (Nat.le_of_ble_eq_true rfl)⟩) ⟨fw_blind, fw_recv hK hP (fw_V0 (f := 18) (by decide) (by decide)) rfl rfl, fun U hU9 hW9 => ⟨rfl, fw_pre hK hP hSt hS U hU9 hW9⟩⟩ rfl rfl hl.1 rfl (lv_room (Nat.le_of_ble_eq_true rfl)) dX10_washes_3 ⟨Nat.zero_le _, Nat.zero_le _⟩) hS (fun H locs hP hS => ?_)
    exact W.iret (v := r1) hx hb hr (fw_ew (mk := Value.int) h hP hS) hS.2.2 dX10_washes_6
  subst ha
  have hl := lv_entry ([.ref (fw_ad E 0 18), .int x1]) (n := 2) (Nat.le_of_ble_eq_true rfl)
  rw [lg_entry_eq]
  generalize (lg_sl ([.ref (fw_ad E 0 18), .int x1]) ++ List.replicate (2 - (lg_sl ([.ref (fw_ad E 0 18), .int x1])).length) Slot.unset).toArray = ls at hl ⊢
  exact EN s.heap [] ls hP va_S.rf hl
set_option maxHeartbeats 4000000 in
set_option maxRecDepth 100000 in
theorem k_X10_isSockIn (l : Launch) {E : fw_E} {o : Int64} {d : UInt64} (hE : fw_ok E) {μ : fw_M} (x1 : Int32) (x2 : Int32) (x3 : Int32) {r : Int32} (h : f_X10_isSockIn μ x1 x2 x3 = some r) : Met l yX10_isSockIn (fw_ws yX10_isSockIn cX10_isSockIn 4 (some .boolean)) ({ frames := 1, cells := 0, slots := 0, locals := 22 } : Room) (va_Pc [.ref (fw_ad E 0 18), .int x1, .int x2, .int x3] (fw_Pre E o d μ)) (fw_Q E o d (some (.int r)) μ) 0 0 (fw_A E) := by
  refine Met.ofW (cc := cX10_isSockIn) (maxL := 4) (ret := (some .boolean)) (by decide) rfl ?_
  intro p e s m args below meth c s₁ B hml hv
  obtain ⟨ha, hK, hP, hSt⟩ := hv
  have hx := B.exec
  have hb := B.bytes
  have hr := B.returns
  have hts := atoms_spec (ws := fw_ws yX10_isSockIn cX10_isSockIn 4 (some .boolean)) B.pre
  have hU : ∀ w ∈ fw_U, w.before args s = true := fun w hw => hts w (List.mem_cons_of_mem _ hw)
  have hown : s.vm.findClass RX10 = some m.cls := findClass_of_methodNamed B.named
  have hlocks := B.notSynchronized
  have EN : ∀ (H : Heap) (locs : List Loc) (ls : Array Slot), fw_P E o d μ H → va_S (fw_A E) s.heap H locs → lv_has ls 4 [(0, .ref (fw_ad E 0 18)), (1, .int x1), (2, .int x2), (3, .int x3)] → W p l e (headSpec (fw_ws yX10_isSockIn cX10_isSockIn 4 (some .boolean)) ({ frames := 1, cells := 0, slots := 0, locals := 22 } : Room)).room s m args below meth c H locs 0 0 (MQ below (fw_Q E o d (some (.int r)) μ) args s 0 0 (fw_A E)) (F0 m 0 ls []) := by
    intro H locs ls hP hS hl
    unfold f_X10_isSockIn at h
    refine lv_aload_n hx hb dX10_isSockIn_0 rfl (lv_at hl 0 rfl) ?_
    refine lv_iload_n hx hb dX10_isSockIn_1 rfl (lv_at hl 1 rfl) ?_
    refine lv_iconst (v := (1 : Int32)) hx hb dX10_isSockIn_2 (by decide) ?_
    obtain ⟨r1, hc1, h⟩ := fw_b1_e h
    refine fw_ret (va_runV (As := [.int x1, .int (1 : Int32)]) (rest := []) ⟨hx, hb, hml, hown, hU⟩ (k_X10_of l hE x1 (1 : Int32) hc1) (cwV 2 hU (fw_gV m_1235 m_1237 ms_20 m_9 m_1238) rfl rfl rfl (by decide +kernel) ⟨(Nat.le_of_ble_eq_true rfl), (Nat.le_of_ble_eq_true rfl)⟩) ⟨fw_blind, fw_recv hK hP (fw_V0 (f := 18) (by decide) (by decide)) rfl rfl, fun U hU9 hW9 => ⟨rfl, fw_pre hK hP hSt hS U hU9 hW9⟩⟩ rfl rfl hl.1 rfl (lv_room (Nat.le_of_ble_eq_true rfl)) dX10_isSockIn_3 ⟨Nat.zero_le _, Nat.zero_le _⟩) hS (fun H locs hP hS => ?_)
    refine lv_iconst (v := (1 : Int32)) hx hb dX10_isSockIn_6 (by decide) ?_
    refine lv_icmp_ne (tgt := 43) hx hb dX10_isSockIn_7 (by decide) (fun c2 => ?_) (fun c2 => ?_)
    · rw [if_neg c2] at h
      refine lv_iconst (v := (0 : Int32)) hx hb dX10_isSockIn_43 (by decide) ?_
      exact W.zret (v := (0 : Int32)) hx hb hr rfl (fw_er (mk := Value.int) h hP hS) hS.2.2 dX10_isSockIn_44
    · rw [if_pos c2] at h
      refine lv_aload_n hx hb dX10_isSockIn_10 rfl (lv_at hl 0 rfl) ?_
      refine lv_iload_n hx hb dX10_isSockIn_11 rfl (lv_at hl 1 rfl) ?_
      refine lv_iconst (v := (4 : Int32)) hx hb dX10_isSockIn_12 (by decide) ?_
      obtain ⟨r3, hc3, h⟩ := fw_b1_e h
      refine fw_ret (va_runV (As := [.int x1, .int (4 : Int32)]) (rest := []) ⟨hx, hb, hml, hown, hU⟩ (k_X10_of l hE x1 (4 : Int32) hc3) (cwV 2 hU (fw_gV m_1235 m_1237 ms_20 m_9 m_1238) rfl rfl rfl (by decide +kernel) ⟨(Nat.le_of_ble_eq_true rfl), (Nat.le_of_ble_eq_true rfl)⟩) ⟨fw_blind, fw_recv hK hP (fw_V0 (f := 18) (by decide) (by decide)) rfl rfl, fun U hU9 hW9 => ⟨rfl, fw_pre hK hP hSt hS U hU9 hW9⟩⟩ rfl rfl hl.1 rfl (lv_room (Nat.le_of_ble_eq_true rfl)) dX10_isSockIn_13 ⟨Nat.zero_le _, Nat.zero_le _⟩) hS (fun H locs hP hS => ?_)
      refine lv_if_ne (tgt := 43) hx hb dX10_isSockIn_16 (by decide) (fun c4 => ?_) (fun c4 => ?_)
      · rw [if_neg c4] at h
        refine lv_iconst (v := (0 : Int32)) hx hb dX10_isSockIn_43 (by decide) ?_
        exact W.zret (v := (0 : Int32)) hx hb hr rfl (fw_er (mk := Value.int) h hP hS) hS.2.2 dX10_isSockIn_44
      · rw [if_pos c4] at h
        refine lv_aload_n hx hb dX10_isSockIn_19 rfl (lv_at hl 0 rfl) ?_
        refine lv_iload_n hx hb dX10_isSockIn_20 rfl (lv_at hl 1 rfl) ?_
        refine lv_iconst (v := (0 : Int32)) hx hb dX10_isSockIn_21 (by decide) ?_
        obtain ⟨r5, hc5, h⟩ := fw_b1_e h
        refine fw_ret (va_runV (As := [.int x1, .int (0 : Int32)]) (rest := []) ⟨hx, hb, hml, hown, hU⟩ (k_X10_of l hE x1 (0 : Int32) hc5) (cwV 2 hU (fw_gV m_1235 m_1237 ms_20 m_9 m_1238) rfl rfl rfl (by decide +kernel) ⟨(Nat.le_of_ble_eq_true rfl), (Nat.le_of_ble_eq_true rfl)⟩) ⟨fw_blind, fw_recv hK hP (fw_V0 (f := 18) (by decide) (by decide)) rfl rfl, fun U hU9 hW9 => ⟨rfl, fw_pre hK hP hSt hS U hU9 hW9⟩⟩ rfl rfl hl.1 rfl (lv_room (Nat.le_of_ble_eq_true rfl)) dX10_isSockIn_22 ⟨Nat.zero_le _, Nat.zero_le _⟩) hS (fun H locs hP hS => ?_)
        refine lv_iload_n hx hb dX10_isSockIn_25 rfl (lv_at hl 2 rfl) ?_
        refine lv_icmp_ne (tgt := 43) hx hb dX10_isSockIn_26 (by decide) (fun c6 => ?_) (fun c6 => ?_)
        · rw [if_neg c6] at h
          refine lv_iconst (v := (0 : Int32)) hx hb dX10_isSockIn_43 (by decide) ?_
          exact W.zret (v := (0 : Int32)) hx hb hr rfl (fw_er (mk := Value.int) h hP hS) hS.2.2 dX10_isSockIn_44
        · rw [if_pos c6] at h
          refine lv_aload_n hx hb dX10_isSockIn_29 rfl (lv_at hl 0 rfl) ?_
          refine lv_iload_n hx hb dX10_isSockIn_30 rfl (lv_at hl 1 rfl) ?_
          refine lv_iconst (v := (2 : Int32)) hx hb dX10_isSockIn_31 (by decide) ?_
          obtain ⟨r7, hc7, h⟩ := fw_b1_e h
          refine fw_ret (va_runV (As := [.int x1, .int (2 : Int32)]) (rest := []) ⟨hx, hb, hml, hown, hU⟩ (k_X10_of l hE x1 (2 : Int32) hc7) (cwV 2 hU (fw_gV m_1235 m_1237 ms_20 m_9 m_1238) rfl rfl rfl (by decide +kernel) ⟨(Nat.le_of_ble_eq_true rfl), (Nat.le_of_ble_eq_true rfl)⟩) ⟨fw_blind, fw_recv hK hP (fw_V0 (f := 18) (by decide) (by decide)) rfl rfl, fun U hU9 hW9 => ⟨rfl, fw_pre hK hP hSt hS U hU9 hW9⟩⟩ rfl rfl hl.1 rfl (lv_room (Nat.le_of_ble_eq_true rfl)) dX10_isSockIn_32 ⟨Nat.zero_le _, Nat.zero_le _⟩) hS (fun H locs hP hS => ?_)
          refine lv_iload_n hx hb dX10_isSockIn_35 rfl (lv_at hl 3 rfl) ?_
          refine lv_icmp_ne (tgt := 43) hx hb dX10_isSockIn_36 (by decide) (fun c8 => ?_) (fun c8 => ?_)
          · rw [if_neg c8] at h
            refine lv_iconst (v := (0 : Int32)) hx hb dX10_isSockIn_43 (by decide) ?_
            exact W.zret (v := (0 : Int32)) hx hb hr rfl (fw_er (mk := Value.int) h hP hS) hS.2.2 dX10_isSockIn_44
          · rw [if_pos c8] at h
            refine lv_iconst (v := (1 : Int32)) hx hb dX10_isSockIn_39 (by decide) ?_
            refine lv_goto (tgt := 44) hx hb dX10_isSockIn_40 (by decide) ?_
            exact W.zret (v := (1 : Int32)) hx hb hr rfl (fw_er (mk := Value.int) h hP hS) hS.2.2 dX10_isSockIn_44
  subst ha
  have hl := lv_entry ([.ref (fw_ad E 0 18), .int x1, .int x2, .int x3]) (n := 4) (Nat.le_of_ble_eq_true rfl)
  rw [lg_entry_eq]
  generalize (lg_sl ([.ref (fw_ad E 0 18), .int x1, .int x2, .int x3]) ++ List.replicate (4 - (lg_sl ([.ref (fw_ad E 0 18), .int x1, .int x2, .int x3])).length) Slot.unset).toArray = ls at hl ⊢
  exact EN s.heap [] ls hP va_S.rf hl
set_option maxHeartbeats 4000000 in
set_option maxRecDepth 100000 in
theorem k_X10_other (l : Launch) {E : fw_E} {o : Int64} {d : UInt64} (hE : fw_ok E) {μ : fw_M} (x1 : Int32) {r : Int32} (h : f_X10_other μ x1 = some r) : Met l yX10_other (fw_ws yX10_other cX10_other 4 (some .int)) ({ frames := 2, cells := 0, slots := 0, locals := 45 } : Room) (va_Pc [.ref (fw_ad E 0 18), .int x1] (fw_Pre E o d μ)) (fw_Q E o d (some (.int r)) μ) 0 0 (fw_A E) := by
  refine Met.ofW (cc := cX10_other) (maxL := 4) (ret := (some .int)) (by decide) rfl ?_
  intro p e s m args below meth c s₁ B hml hv
  obtain ⟨ha, hK, hP, hSt⟩ := hv
  have hx := B.exec
  have hb := B.bytes
  have hr := B.returns
  have hts := atoms_spec (ws := fw_ws yX10_other cX10_other 4 (some .int)) B.pre
  have hU : ∀ w ∈ fw_U, w.before args s = true := fun w hw => hts w (List.mem_cons_of_mem _ hw)
  have hown : s.vm.findClass RX10 = some m.cls := findClass_of_methodNamed B.named
  have hlocks := B.notSynchronized
  have L15 : ∀ (n : Nat) (x1 : Int32) (x2 : Int32) (x3 : Int32) (H : Heap) (locs : List Loc) (ls : Array Slot), f_X10_other_L15 μ n x1 x2 x3 = some r → fw_P E o d μ H → va_S (fw_A E) s.heap H locs → lv_has ls 4 [(0, .ref (fw_ad E 0 18)), (1, .int x1), (2, .int x2), (3, .int x3)] → W p l e (headSpec (fw_ws yX10_other cX10_other 4 (some .int)) ({ frames := 2, cells := 0, slots := 0, locals := 45 } : Room)).room s m args below meth c H locs 0 0 (MQ below (fw_Q E o d (some (.int r)) μ) args s 0 0 (fw_A E)) (F0 m 15 ls []) := by
    intro n15
    induction n15 with
    | zero => intro x1 x2 x3 H locs ls h; rw [f_X10_other_L15] at h; cases h
    | succ n15 ih15 =>
      intro x1 x2 x3 H locs ls h hP hS hl
      rw [f_X10_other_L15] at h
      refine lv_iload_n hx hb dX10_other_15 rfl (lv_at hl 3 rfl) ?_
      refine lv_aload_n hx hb dX10_other_16 rfl (lv_at hl 0 rfl) ?_
      refine va_get (D := fw_D E) (ci := 8) (v := .ref (fw_ad E 0 19)) (C := RX10) (T := TX10) (N := 20) hx hb hU inU10 hown hK (fw_at hP (fw_V0 (f := 18) (by decide) (by decide))) 0 rfl rfl 1 (by decide) (hU (Cond.fieldLink RX10 7 "LaundryServiceModel" "s" "[I") m_1118) (fun _ h9 => h9) rfl dX10_other_17 ?_
      refine lv_iconst (v := (0 : Int32)) hx hb dX10_other_20 (by decide) ?_
      refine va_iald (D := fw_D E) hx hb hK (fw_at hP (fw_V0 (f := 19) (by decide) (by decide))) 0 0 rfl rfl (fw_in_e (n := 104) (by decide)) dX10_other_21 ?_
      refine lv_icmp_ge (tgt := 80) hx hb dX10_other_22 (by decide) (fun c3 => ?_) (fun c3 => ?_)
      · rw [if_pos c3] at h
        refine lv_iconst (v := (-1 : Int32)) hx hb dX10_other_80 (by decide) ?_
        exact W.iret (v := (-1 : Int32)) hx hb hr (fw_er (mk := Value.int) h hP hS) hS.2.2 dX10_other_81
      · rw [if_neg c3] at h
        refine lv_aload_n hx hb dX10_other_25 rfl (lv_at hl 0 rfl) ?_
        refine lv_iload_n hx hb dX10_other_26 rfl (lv_at hl 3 rfl) ?_
        refine lv_aload_n hx hb dX10_other_27 rfl (lv_at hl 0 rfl) ?_
        refine lv_iload_n hx hb dX10_other_28 rfl (lv_at hl 1 rfl) ?_
        refine lv_iconst (v := (0 : Int32)) hx hb dX10_other_29 (by decide) ?_
        obtain ⟨r4, hc4, h⟩ := fw_b1_e h
        refine fw_ret (va_runV (As := [.int x1, .int (0 : Int32)]) (rest := [.int x3, .ref (fw_ad E 0 18)]) ⟨hx, hb, hml, hown, hU⟩ (k_X10_of l hE x1 (0 : Int32) hc4) (cwV 2 hU (fw_gV m_1235 m_1237 ms_20 m_9 m_1238) rfl rfl rfl (by decide +kernel) ⟨(Nat.le_of_ble_eq_true rfl), (Nat.le_of_ble_eq_true rfl)⟩) ⟨fw_blind, fw_recv hK hP (fw_V0 (f := 18) (by decide) (by decide)) rfl rfl, fun U hU9 hW9 => ⟨rfl, fw_pre hK hP hSt hS U hU9 hW9⟩⟩ rfl rfl hl.1 rfl (lv_room (Nat.le_of_ble_eq_true rfl)) dX10_other_30 ⟨Nat.zero_le _, Nat.zero_le _⟩) hS (fun H locs hP hS => ?_)
        refine lv_aload_n hx hb dX10_other_33 rfl (lv_at hl 0 rfl) ?_
        refine lv_iload_n hx hb dX10_other_34 rfl (lv_at hl 1 rfl) ?_
        refine lv_iconst (v := (2 : Int32)) hx hb dX10_other_35 (by decide) ?_
        obtain ⟨r5, hc5, h⟩ := fw_b1_e h
        refine fw_ret (va_runV (As := [.int x1, .int (2 : Int32)]) (rest := [.int r4, .int x3, .ref (fw_ad E 0 18)]) ⟨hx, hb, hml, hown, hU⟩ (k_X10_of l hE x1 (2 : Int32) hc5) (cwV 2 hU (fw_gV m_1235 m_1237 ms_20 m_9 m_1238) rfl rfl rfl (by decide +kernel) ⟨(Nat.le_of_ble_eq_true rfl), (Nat.le_of_ble_eq_true rfl)⟩) ⟨fw_blind, fw_recv hK hP (fw_V0 (f := 18) (by decide) (by decide)) rfl rfl, fun U hU9 hW9 => ⟨rfl, fw_pre hK hP hSt hS U hU9 hW9⟩⟩ rfl rfl hl.1 rfl (lv_room (Nat.le_of_ble_eq_true rfl)) dX10_other_36 ⟨Nat.zero_le _, Nat.zero_le _⟩) hS (fun H locs hP hS => ?_)
        obtain ⟨r6, hc6, h⟩ := fw_b1_e h
        refine fw_ret (va_runV (As := [.int x3, .int r4, .int r5]) (rest := []) ⟨hx, hb, hml, hown, hU⟩ (k_X10_isSockIn l hE x3 r4 r5 hc6) (cwV 3 hU (fw_gV m_1375 m_1377 ms_37 m_9 m_1378) rfl rfl rfl (by decide +kernel) ⟨(Nat.le_of_ble_eq_true rfl), (Nat.le_of_ble_eq_true rfl)⟩) ⟨fw_blind, fw_recv hK hP (fw_V0 (f := 18) (by decide) (by decide)) rfl rfl, fun U hU9 hW9 => ⟨rfl, fw_pre hK hP hSt hS U hU9 hW9⟩⟩ rfl rfl hl.1 rfl (lv_room (Nat.le_of_ble_eq_true rfl)) dX10_other_39 ⟨Nat.zero_le _, Nat.zero_le _⟩) hS (fun H locs hP hS => ?_)
        refine lv_if_ne (tgt := 48) hx hb dX10_other_42 (by decide) (fun c7 => ?_) (fun c7 => ?_)
        · rw [if_neg c7] at h
          refine lv_iload_n hx hb dX10_other_48 rfl (lv_at hl 2 rfl) ?_
          refine lv_iconst (v := (-1 : Int32)) hx hb dX10_other_49 (by decide) ?_
          refine lv_icmp_ne (tgt := 58) hx hb dX10_other_50 (by decide) (fun c8 => ?_) (fun c8 => ?_)
          · rw [if_neg c8] at h
            refine lv_iload_n hx hb dX10_other_58 rfl (lv_at hl 2 rfl) ?_
            refine lv_iload_n hx hb dX10_other_59 rfl (lv_at hl 1 rfl) ?_
            refine lv_icmp_ne (tgt := 65) hx hb dX10_other_60 (by decide) (fun c9 => ?_) (fun c9 => ?_)
            · rw [if_neg c9] at h
              refine lv_iload_n hx hb dX10_other_65 rfl (lv_at hl 3 rfl) ?_
              refine lv_iload_n hx hb dX10_other_66 rfl (lv_at hl 1 rfl) ?_
              refine lv_icmp_ne (tgt := 72) hx hb dX10_other_67 (by decide) (fun c10 => ?_) (fun c10 => ?_)
              · rw [if_neg c10] at h
                refine lv_iconst (v := (-1 : Int32)) hx hb dX10_other_72 (by decide) ?_
                refine lv_istore_n (lv' := [(2, .int (-1 : Int32)), (0, .ref (fw_ad E 0 18)), (1, .int x1), (3, .int x3)]) hx hb dX10_other_73 rfl hl (by decide) rfl (fun ls hl => ?_)
                refine lv_iinc (v := (x3 + (1 : Int32))) (lv' := [(3, .int (x3 + (1 : Int32))), (2, .int (-1 : Int32)), (0, .ref (fw_ad E 0 18)), (1, .int x1)]) hx hb dX10_other_74 hl (k := 3) rfl rfl (by decide) rfl (fun ls hl => ?_)
                refine lv_goto (tgt := 15) hx hb dX10_other_77 (by decide) ?_
                exact ih15 x1 (-1 : Int32) (x3 + (1 : Int32)) H locs ls h hP hS (lv_sub hl [2, 3, 1, 0] rfl)
              · rw [if_pos c10] at h
                refine lv_iload_n hx hb dX10_other_70 rfl (lv_at hl 2 rfl) ?_
                exact W.iret (v := x2) hx hb hr (fw_er (mk := Value.int) h hP hS) hS.2.2 dX10_other_71
            · rw [if_pos c9] at h
              refine lv_iload_n hx hb dX10_other_63 rfl (lv_at hl 3 rfl) ?_
              exact W.iret (v := x3) hx hb hr (fw_er (mk := Value.int) h hP hS) hS.2.2 dX10_other_64
          · rw [if_pos c8] at h
            refine lv_iload_n hx hb dX10_other_53 rfl (lv_at hl 3 rfl) ?_
            refine lv_istore_n (lv' := [(2, .int x3), (0, .ref (fw_ad E 0 18)), (1, .int x1), (3, .int x3)]) hx hb dX10_other_54 rfl hl (by decide) rfl (fun ls hl => ?_)
            refine lv_goto (tgt := 74) hx hb dX10_other_55 (by decide) ?_
            refine lv_iinc (v := (x3 + (1 : Int32))) (lv' := [(3, .int (x3 + (1 : Int32))), (2, .int x3), (0, .ref (fw_ad E 0 18)), (1, .int x1)]) hx hb dX10_other_74 hl (k := 3) rfl rfl (by decide) rfl (fun ls hl => ?_)
            refine lv_goto (tgt := 15) hx hb dX10_other_77 (by decide) ?_
            exact ih15 x1 x3 (x3 + (1 : Int32)) H locs ls h hP hS (lv_sub hl [2, 3, 1, 0] rfl)
        · rw [if_pos c7] at h
          refine lv_goto (tgt := 74) hx hb dX10_other_45 (by decide) ?_
          refine lv_iinc (v := (x3 + (1 : Int32))) (lv' := [(3, .int (x3 + (1 : Int32))), (0, .ref (fw_ad E 0 18)), (1, .int x1), (2, .int x2)]) hx hb dX10_other_74 hl (k := 3) rfl rfl (by decide) rfl (fun ls hl => ?_)
          refine lv_goto (tgt := 15) hx hb dX10_other_77 (by decide) ?_
          exact ih15 x1 x2 (x3 + (1 : Int32)) H locs ls h hP hS (lv_sub hl [1, 2, 3, 0] rfl)
  have EN : ∀ (H : Heap) (locs : List Loc) (ls : Array Slot), fw_P E o d μ H → va_S (fw_A E) s.heap H locs → lv_has ls 4 [(0, .ref (fw_ad E 0 18)), (1, .int x1)] → W p l e (headSpec (fw_ws yX10_other cX10_other 4 (some .int)) ({ frames := 2, cells := 0, slots := 0, locals := 45 } : Room)).room s m args below meth c H locs 0 0 (MQ below (fw_Q E o d (some (.int r)) μ) args s 0 0 (fw_A E)) (F0 m 0 ls []) := by
    intro H locs ls hP hS hl
    unfold f_X10_other at h
    refine lv_aload_n hx hb dX10_other_0 rfl (lv_at hl 0 rfl) ?_
    refine lv_iload_n hx hb dX10_other_1 rfl (lv_at hl 1 rfl) ?_
    refine lv_iconst (v := (4 : Int32)) hx hb dX10_other_2 (by decide) ?_
    obtain ⟨r1, hc1, h⟩ := fw_b1_e h
    refine fw_ret (va_runV (As := [.int x1, .int (4 : Int32)]) (rest := []) ⟨hx, hb, hml, hown, hU⟩ (k_X10_of l hE x1 (4 : Int32) hc1) (cwV 2 hU (fw_gV m_1235 m_1237 ms_20 m_9 m_1238) rfl rfl rfl (by decide +kernel) ⟨(Nat.le_of_ble_eq_true rfl), (Nat.le_of_ble_eq_true rfl)⟩) ⟨fw_blind, fw_recv hK hP (fw_V0 (f := 18) (by decide) (by decide)) rfl rfl, fun U hU9 hW9 => ⟨rfl, fw_pre hK hP hSt hS U hU9 hW9⟩⟩ rfl rfl hl.1 rfl (lv_room (Nat.le_of_ble_eq_true rfl)) dX10_other_3 ⟨Nat.zero_le _, Nat.zero_le _⟩) hS (fun H locs hP hS => ?_)
    refine lv_if_eq (tgt := 11) hx hb dX10_other_6 (by decide) (fun c2 => ?_) (fun c2 => ?_)
    · rw [if_pos c2] at h
      refine lv_iconst (v := (-1 : Int32)) hx hb dX10_other_11 (by decide) ?_
      refine lv_istore_n (lv' := [(2, .int (-1 : Int32)), (0, .ref (fw_ad E 0 18)), (1, .int x1)]) hx hb dX10_other_12 rfl hl (by decide) rfl (fun ls hl => ?_)
      refine lv_iconst (v := (0 : Int32)) hx hb dX10_other_13 (by decide) ?_
      refine lv_istore_n (lv' := [(3, .int (0 : Int32)), (2, .int (-1 : Int32)), (0, .ref (fw_ad E 0 18)), (1, .int x1)]) hx hb dX10_other_14 rfl hl (by decide) rfl (fun ls hl => ?_)
      exact L15 1000 x1 (-1 : Int32) (0 : Int32) H locs ls h hP hS (lv_sub hl [2, 3, 1, 0] rfl)
    · rw [if_neg c2] at h
      refine lv_iconst (v := (-1 : Int32)) hx hb dX10_other_9 (by decide) ?_
      exact W.iret (v := (-1 : Int32)) hx hb hr (fw_er (mk := Value.int) h hP hS) hS.2.2 dX10_other_10
  subst ha
  have hl := lv_entry ([.ref (fw_ad E 0 18), .int x1]) (n := 4) (Nat.le_of_ble_eq_true rfl)
  rw [lg_entry_eq]
  generalize (lg_sl ([.ref (fw_ad E 0 18), .int x1]) ++ List.replicate (4 - (lg_sl ([.ref (fw_ad E 0 18), .int x1])).length) Slot.unset).toArray = ls at hl ⊢
  exact EN s.heap [] ls hP va_S.rf hl
set_option maxHeartbeats 4000000 in
set_option maxRecDepth 100000 in
theorem k_X10_partner (l : Launch) {E : fw_E} {o : Int64} {d : UInt64} (hE : fw_ok E) {μ μ' : fw_M} (x1 : Int32) {r : Int32} (h : f_X10_partner μ x1 = some (μ', r)) : Met l yX10_partner (fw_ws yX10_partner cX10_partner 2 (some .int)) ({ frames := 3, cells := 0, slots := 0, locals := 68 } : Room) (va_Pc [.ref (fw_ad E 0 18), .int x1] (fw_Pre E o d μ)) (fw_Q E o d (some (.int r)) μ') 0 0 (fw_A E) := by
  refine Met.ofW (cc := cX10_partner) (maxL := 2) (ret := (some .int)) (by decide) rfl ?_
  intro p e s m args below meth c s₁ B hml hv
  obtain ⟨ha, hK, hP, hSt⟩ := hv
  have hx := B.exec
  have hb := B.bytes
  have hr := B.returns
  have hts := atoms_spec (ws := fw_ws yX10_partner cX10_partner 2 (some .int)) B.pre
  have hU : ∀ w ∈ fw_U, w.before args s = true := fun w hw => hts w (List.mem_cons_of_mem _ hw)
  have hown : s.vm.findClass RX10 = some m.cls := findClass_of_methodNamed B.named
  have hlocks := B.notSynchronized
  have J40 : ∀ (μ : fw_M) (x1 : Int32) (s1 : Int32) (H : Heap) (locs : List Loc) (ls : Array Slot), f_X10_partner_J40 μ x1 s1 = some (μ', r) → fw_P E o d μ H → va_S (fw_A E) s.heap H locs → lv_has ls 2 [(0, .ref (fw_ad E 0 18)), (1, .int x1)] → W p l e (headSpec (fw_ws yX10_partner cX10_partner 2 (some .int)) ({ frames := 3, cells := 0, slots := 0, locals := 68 } : Room)).room s m args below meth c H locs 0 0 (MQ below (fw_Q E o d (some (.int r)) μ') args s 0 0 (fw_A E)) (F0 m 40 ls [.int s1, .ref (fw_ad E 0 18)]) := by
    intro μ x1 s1 H locs ls h hP hS hl
    unfold f_X10_partner_J40 at h
    refine fw_put (ci := 8) (v := .int s1) (ty := .int) (C := RX10) (T := TX10) (N := 20) hx hb hU inU10 tyX10 tyX10_ok nmX10 hown hK hP hE hS (fw_V0 (f := 18) (by decide) (by decide)) rfl rfl 0 (by decide) (hU (Cond.fieldLink RX10 41 "LaundryServiceModel" "thrown" "I") m_1117) (fun _ h9 => h9) rfl (by decide +kernel) rfl rfl (Nat.le_of_ble_eq_true rfl) 0 s1 (by rw [fw_u_c]; rfl) dX10_partner_40 (fun H locs hP hS => ?_)
    obtain ⟨μ7, eμ7, h⟩ := fw_l_e h
    rw [← eμ7] at hP
    refine lv_aload_n hx hb dX10_partner_43 rfl (lv_at hl 0 rfl) ?_
    refine va_get (D := fw_D E) (ci := 8) (v := .int (μ7 0 18 0)) (C := RX10) (T := TX10) (N := 20) hx hb hU inU10 hown hK (fw_at hP (fw_V0 (f := 18) (by decide) (by decide))) 0 rfl rfl 0 (by decide) (hU (Cond.fieldLink RX10 41 "LaundryServiceModel" "thrown" "I") m_1117) (fun _ h9 => h9) rfl dX10_partner_44 ?_
    refine lv_if_le (tgt := 54) hx hb dX10_partner_47 (by decide) (fun c8 => ?_) (fun c8 => ?_)
    · rw [if_pos c8] at h
      refine lv_aload_n hx hb dX10_partner_54 rfl (lv_at hl 0 rfl) ?_
      refine lv_iload_n hx hb dX10_partner_55 rfl (lv_at hl 1 rfl) ?_
      obtain ⟨r9, hc9, h⟩ := fw_b1_e h
      refine fw_ret (va_runV (As := [.int x1]) (rest := []) ⟨hx, hb, hml, hown, hU⟩ (k_X10_other l hE x1 hc9) (cwV 1 hU (fw_gV m_1371 m_1373 ms_36 m_9 m_1374) rfl rfl rfl (by decide +kernel) ⟨(Nat.le_of_ble_eq_true rfl), (Nat.le_of_ble_eq_true rfl)⟩) ⟨fw_blind, fw_recv hK hP (fw_V0 (f := 18) (by decide) (by decide)) rfl rfl, fun U hU9 hW9 => ⟨rfl, fw_pre hK hP hSt hS U hU9 hW9⟩⟩ rfl rfl hl.1 rfl (lv_room (Nat.le_of_ble_eq_true rfl)) dX10_partner_56 ⟨Nat.zero_le _, Nat.zero_le _⟩) hS (fun H locs hP hS => ?_)
      exact W.iret (v := r9) hx hb hr (fw_ew (mk := Value.int) h hP hS) hS.2.2 dX10_partner_59
    · rw [if_neg c8] at h
      refine lv_iconst (v := (0 : Int32)) hx hb dX10_partner_50 (by decide) ?_
      refine lv_goto (tgt := 59) hx hb dX10_partner_51 (by decide) ?_
      exact W.iret (v := (0 : Int32)) hx hb hr (fw_ew (mk := Value.int) h hP hS) hS.2.2 dX10_partner_59
  have EN : ∀ (H : Heap) (locs : List Loc) (ls : Array Slot), fw_P E o d μ H → va_S (fw_A E) s.heap H locs → lv_has ls 2 [(0, .ref (fw_ad E 0 18)), (1, .int x1)] → W p l e (headSpec (fw_ws yX10_partner cX10_partner 2 (some .int)) ({ frames := 3, cells := 0, slots := 0, locals := 68 } : Room)).room s m args below meth c H locs 0 0 (MQ below (fw_Q E o d (some (.int r)) μ') args s 0 0 (fw_A E)) (F0 m 0 ls []) := by
    intro H locs ls hP hS hl
    unfold f_X10_partner at h
    refine lv_aload_n hx hb dX10_partner_0 rfl (lv_at hl 0 rfl) ?_
    refine lv_aload_n hx hb dX10_partner_1 rfl (lv_at hl 0 rfl) ?_
    refine lv_iload_n hx hb dX10_partner_2 rfl (lv_at hl 1 rfl) ?_
    obtain ⟨r1, hc1, h⟩ := fw_b1_e h
    refine fw_ret (va_runV (As := [.int x1]) (rest := [.ref (fw_ad E 0 18)]) ⟨hx, hb, hml, hown, hU⟩ (k_X10_isGarment l hE x1 hc1) (cwV 1 hU (fw_gV m_1228 m_1230 ms_19 m_9 m_1231) rfl rfl rfl (by decide +kernel) ⟨(Nat.le_of_ble_eq_true rfl), (Nat.le_of_ble_eq_true rfl)⟩) ⟨fw_blind, fw_recv hK hP (fw_V0 (f := 18) (by decide) (by decide)) rfl rfl, fun U hU9 hW9 => ⟨rfl, fw_pre hK hP hSt hS U hU9 hW9⟩⟩ rfl rfl hl.1 rfl (lv_room (Nat.le_of_ble_eq_true rfl)) dX10_partner_3 ⟨Nat.zero_le _, Nat.zero_le _⟩) hS (fun H locs hP hS => ?_)
    refine lv_if_ne (tgt := 13) hx hb dX10_partner_6 (by decide) (fun c2 => ?_) (fun c2 => ?_)
    · rw [if_neg c2] at h
      refine lv_aload_n hx hb dX10_partner_13 rfl (lv_at hl 0 rfl) ?_
      refine lv_iload_n hx hb dX10_partner_14 rfl (lv_at hl 1 rfl) ?_
      refine lv_iconst (v := (1 : Int32)) hx hb dX10_partner_15 (by decide) ?_
      obtain ⟨r3, hc3, h⟩ := fw_b1_e h
      refine fw_ret (va_runV (As := [.int x1, .int (1 : Int32)]) (rest := [.ref (fw_ad E 0 18)]) ⟨hx, hb, hml, hown, hU⟩ (k_X10_of l hE x1 (1 : Int32) hc3) (cwV 2 hU (fw_gV m_1235 m_1237 ms_20 m_9 m_1238) rfl rfl rfl (by decide +kernel) ⟨(Nat.le_of_ble_eq_true rfl), (Nat.le_of_ble_eq_true rfl)⟩) ⟨fw_blind, fw_recv hK hP (fw_V0 (f := 18) (by decide) (by decide)) rfl rfl, fun U hU9 hW9 => ⟨rfl, fw_pre hK hP hSt hS U hU9 hW9⟩⟩ rfl rfl hl.1 rfl (lv_room (Nat.le_of_ble_eq_true rfl)) dX10_partner_16 ⟨Nat.zero_le _, Nat.zero_le _⟩) hS (fun H locs hP hS => ?_)
      refine lv_if_ne (tgt := 26) hx hb dX10_partner_19 (by decide) (fun c4 => ?_) (fun c4 => ?_)
      · rw [if_neg c4] at h
        refine lv_aload_n hx hb dX10_partner_26 rfl (lv_at hl 0 rfl) ?_
        refine lv_iload_n hx hb dX10_partner_27 rfl (lv_at hl 1 rfl) ?_
        obtain ⟨r5, hc5, h⟩ := fw_b1_e h
        refine fw_ret (va_runV (As := [.int x1]) (rest := [.ref (fw_ad E 0 18)]) ⟨hx, hb, hml, hown, hU⟩ (k_X10_other l hE x1 hc5) (cwV 1 hU (fw_gV m_1371 m_1373 ms_36 m_9 m_1374) rfl rfl rfl (by decide +kernel) ⟨(Nat.le_of_ble_eq_true rfl), (Nat.le_of_ble_eq_true rfl)⟩) ⟨fw_blind, fw_recv hK hP (fw_V0 (f := 18) (by decide) (by decide)) rfl rfl, fun U hU9 hW9 => ⟨rfl, fw_pre hK hP hSt hS U hU9 hW9⟩⟩ rfl rfl hl.1 rfl (lv_room (Nat.le_of_ble_eq_true rfl)) dX10_partner_28 ⟨Nat.zero_le _, Nat.zero_le _⟩) hS (fun H locs hP hS => ?_)
        refine lv_iconst (v := (-1 : Int32)) hx hb dX10_partner_31 (by decide) ?_
        refine lv_icmp_ne (tgt := 39) hx hb dX10_partner_32 (by decide) (fun c6 => ?_) (fun c6 => ?_)
        · rw [if_neg c6] at h
          refine lv_iconst (v := (0 : Int32)) hx hb dX10_partner_39 (by decide) ?_
          exact J40 μ x1 (0 : Int32) H locs ls h hP hS (lv_sub hl [0, 1] rfl)
        · rw [if_pos c6] at h
          refine lv_iconst (v := (3 : Int32)) hx hb dX10_partner_35 (by decide) ?_
          refine lv_goto (tgt := 40) hx hb dX10_partner_36 (by decide) ?_
          exact J40 μ x1 (3 : Int32) H locs ls h hP hS (lv_sub hl [0, 1] rfl)
      · rw [if_pos c4] at h
        refine lv_iconst (v := (2 : Int32)) hx hb dX10_partner_22 (by decide) ?_
        refine lv_goto (tgt := 40) hx hb dX10_partner_23 (by decide) ?_
        exact J40 μ x1 (2 : Int32) H locs ls h hP hS (lv_sub hl [0, 1] rfl)
    · rw [if_pos c2] at h
      refine lv_iconst (v := (1 : Int32)) hx hb dX10_partner_9 (by decide) ?_
      refine lv_goto (tgt := 40) hx hb dX10_partner_10 (by decide) ?_
      exact J40 μ x1 (1 : Int32) H locs ls h hP hS (lv_sub hl [0, 1] rfl)
  subst ha
  have hl := lv_entry ([.ref (fw_ad E 0 18), .int x1]) (n := 2) (Nat.le_of_ble_eq_true rfl)
  rw [lg_entry_eq]
  generalize (lg_sl ([.ref (fw_ad E 0 18), .int x1]) ++ List.replicate (2 - (lg_sl ([.ref (fw_ad E 0 18), .int x1])).length) Slot.unset).toArray = ls at hl ⊢
  exact EN s.heap [] ls hP va_S.rf hl
set_option maxHeartbeats 4000000 in
set_option maxRecDepth 100000 in
theorem k_X10_pairCount (l : Launch) {E : fw_E} {o : Int64} {d : UInt64} (hE : fw_ok E) {μ μ' : fw_M} (x1 : Int32) {r : Int32} (h : f_X10_pairCount μ x1 = some (μ', r)) : Met l yX10_pairCount (fw_ws yX10_pairCount cX10_pairCount 6 (some .int)) ({ frames := 2, cells := 0, slots := 0, locals := 45 } : Room) (va_Pc [.ref (fw_ad E 0 18), .int x1] (fw_Pre E o d μ)) (fw_Q E o d (some (.int r)) μ') 0 0 (fw_A E) := by
  refine Met.ofW (cc := cX10_pairCount) (maxL := 6) (ret := (some .int)) (by decide) rfl ?_
  intro p e s m args below meth c s₁ B hml hv
  obtain ⟨ha, hK, hP, hSt⟩ := hv
  have hx := B.exec
  have hb := B.bytes
  have hr := B.returns
  have hts := atoms_spec (ws := fw_ws yX10_pairCount cX10_pairCount 6 (some .int)) B.pre
  have hU : ∀ w ∈ fw_U, w.before args s = true := fun w hw => hts w (List.mem_cons_of_mem _ hw)
  have hown : s.vm.findClass RX10 = some m.cls := findClass_of_methodNamed B.named
  have hlocks := B.notSynchronized
  have L29 : ∀ (n : Nat) (μ : fw_M) (x1 : Int32) (x2 : Int32) (x3 : Int32) (H : Heap) (locs : List Loc) (ls : Array Slot), f_X10_pairCount_L29 n μ x1 x2 x3 = some (μ', r) → fw_P E o d μ H → va_S (fw_A E) s.heap H locs → lv_has ls 6 [(0, .ref (fw_ad E 0 18)), (1, .int x1), (2, .int x2), (3, .int x3)] → W p l e (headSpec (fw_ws yX10_pairCount cX10_pairCount 6 (some .int)) ({ frames := 2, cells := 0, slots := 0, locals := 45 } : Room)).room s m args below meth c H locs 0 0 (MQ below (fw_Q E o d (some (.int r)) μ') args s 0 0 (fw_A E)) (F0 m 29 ls []) := by
    intro n29
    induction n29 with
    | zero => intro μ x1 x2 x3 H locs ls h; rw [f_X10_pairCount_L29] at h; cases h
    | succ n29 ih29 =>
      have L41 : ∀ (n : Nat) (μ : fw_M) (x1 : Int32) (x2 : Int32) (x3 : Int32) (x4 : Int32) (x5 : Int32) (H : Heap) (locs : List Loc) (ls : Array Slot), f_X10_pairCount_L41 (f_X10_pairCount_L29 n29) n μ x1 x2 x3 x4 x5 = some (μ', r) → fw_P E o d μ H → va_S (fw_A E) s.heap H locs → lv_has ls 6 [(0, .ref (fw_ad E 0 18)), (1, .int x1), (2, .int x2), (3, .int x3), (4, .int x4), (5, .int x5)] → W p l e (headSpec (fw_ws yX10_pairCount cX10_pairCount 6 (some .int)) ({ frames := 2, cells := 0, slots := 0, locals := 45 } : Room)).room s m args below meth c H locs 0 0 (MQ below (fw_Q E o d (some (.int r)) μ') args s 0 0 (fw_A E)) (F0 m 41 ls []) := by
        intro n41
        induction n41 with
        | zero => intro μ x1 x2 x3 x4 x5 H locs ls h; rw [f_X10_pairCount_L41] at h; cases h
        | succ n41 ih41 =>
          intro μ x1 x2 x3 x4 x5 H locs ls h hP hS hl
          rw [f_X10_pairCount_L41] at h
          refine lv_iload hx hb dX10_pairCount_41 (lv_at hl 5 rfl) ?_
          refine lv_aload_n hx hb dX10_pairCount_43 rfl (lv_at hl 0 rfl) ?_
          refine va_get (D := fw_D E) (ci := 8) (v := .ref (fw_ad E 0 19)) (C := RX10) (T := TX10) (N := 20) hx hb hU inU10 hown hK (fw_at hP (fw_V0 (f := 18) (by decide) (by decide))) 0 rfl rfl 1 (by decide) (hU (Cond.fieldLink RX10 7 "LaundryServiceModel" "s" "[I") m_1118) (fun _ h9 => h9) rfl dX10_pairCount_44 ?_
          refine lv_iconst (v := (0 : Int32)) hx hb dX10_pairCount_47 (by decide) ?_
          refine va_iald (D := fw_D E) hx hb hK (fw_at hP (fw_V0 (f := 19) (by decide) (by decide))) 0 0 rfl rfl (fw_in_e (n := 104) (by decide)) dX10_pairCount_48 ?_
          refine lv_icmp_ge (tgt := 79) hx hb dX10_pairCount_49 (by decide) (fun c6 => ?_) (fun c6 => ?_)
          · rw [if_pos c6] at h
            refine lv_iload_n hx hb dX10_pairCount_79 rfl (lv_at hl 2 rfl) ?_
            refine lv_iload hx hb dX10_pairCount_80 (lv_at hl 4 rfl) ?_
            refine lv_iconst (v := (2 : Int32)) hx hb dX10_pairCount_82 (by decide) ?_
            refine lv_idiv hx hb dX10_pairCount_83 (by decide) ?_
            refine lv_iadd hx hb dX10_pairCount_84 ?_
            refine lv_istore_n (lv' := [(2, .int (x2 + (x4 / (2 : Int32)))), (0, .ref (fw_ad E 0 18)), (1, .int x1), (3, .int x3), (4, .int x4), (5, .int x5)]) hx hb dX10_pairCount_85 rfl hl (by decide) rfl (fun ls hl => ?_)
            refine lv_iinc (v := (x3 + (1 : Int32))) (lv' := [(3, .int (x3 + (1 : Int32))), (2, .int (x2 + (x4 / (2 : Int32)))), (0, .ref (fw_ad E 0 18)), (1, .int x1), (4, .int x4), (5, .int x5)]) hx hb dX10_pairCount_86 hl (k := 3) rfl rfl (by decide) rfl (fun ls hl => ?_)
            refine lv_goto (tgt := 29) hx hb dX10_pairCount_89 (by decide) ?_
            exact ih29 μ x1 (x2 + (x4 / (2 : Int32))) (x3 + (1 : Int32)) H locs ls h hP hS (lv_sub hl [2, 3, 1, 0] rfl)
          · rw [if_neg c6] at h
            refine lv_iload hx hb dX10_pairCount_52 (lv_at hl 4 rfl) ?_
            refine lv_aload_n hx hb dX10_pairCount_54 rfl (lv_at hl 0 rfl) ?_
            refine lv_iload hx hb dX10_pairCount_55 (lv_at hl 5 rfl) ?_
            refine lv_iload_n hx hb dX10_pairCount_57 rfl (lv_at hl 1 rfl) ?_
            refine lv_iload_n hx hb dX10_pairCount_58 rfl (lv_at hl 3 rfl) ?_
            obtain ⟨r7, hc7, h⟩ := fw_b1_e h
            refine fw_ret (va_runV (As := [.int x5, .int x1, .int x3]) (rest := [.int x4]) ⟨hx, hb, hml, hown, hU⟩ (k_X10_isSockIn l hE x5 x1 x3 hc7) (cwV 3 hU (fw_gV m_1375 m_1377 ms_37 m_9 m_1378) rfl rfl rfl (by decide +kernel) ⟨(Nat.le_of_ble_eq_true rfl), (Nat.le_of_ble_eq_true rfl)⟩) ⟨fw_blind, fw_recv hK hP (fw_V0 (f := 18) (by decide) (by decide)) rfl rfl, fun U hU9 hW9 => ⟨rfl, fw_pre hK hP hSt hS U hU9 hW9⟩⟩ rfl rfl hl.1 rfl (lv_room (Nat.le_of_ble_eq_true rfl)) dX10_pairCount_59 ⟨Nat.zero_le _, Nat.zero_le _⟩) hS (fun H locs hP hS => ?_)
            refine lv_if_eq (tgt := 69) hx hb dX10_pairCount_62 (by decide) (fun c8 => ?_) (fun c8 => ?_)
            · rw [if_pos c8] at h
              refine lv_iconst (v := (0 : Int32)) hx hb dX10_pairCount_69 (by decide) ?_
              refine lv_iadd hx hb dX10_pairCount_70 ?_
              refine lv_istore (lv' := [(4, .int (x4 + (0 : Int32))), (0, .ref (fw_ad E 0 18)), (1, .int x1), (2, .int x2), (3, .int x3), (5, .int x5)]) hx hb dX10_pairCount_71 hl (by decide) rfl (fun ls hl => ?_)
              refine lv_iinc (v := (x5 + (1 : Int32))) (lv' := [(5, .int (x5 + (1 : Int32))), (4, .int (x4 + (0 : Int32))), (0, .ref (fw_ad E 0 18)), (1, .int x1), (2, .int x2), (3, .int x3)]) hx hb dX10_pairCount_73 hl (k := 5) rfl rfl (by decide) rfl (fun ls hl => ?_)
              refine lv_goto (tgt := 41) hx hb dX10_pairCount_76 (by decide) ?_
              exact ih41 μ x1 x2 x3 (x4 + (0 : Int32)) (x5 + (1 : Int32)) H locs ls h hP hS (lv_sub hl [2, 3, 4, 5, 1, 0] rfl)
            · rw [if_neg c8] at h
              refine lv_iconst (v := (1 : Int32)) hx hb dX10_pairCount_65 (by decide) ?_
              refine lv_goto (tgt := 70) hx hb dX10_pairCount_66 (by decide) ?_
              refine lv_iadd hx hb dX10_pairCount_70 ?_
              refine lv_istore (lv' := [(4, .int (x4 + (1 : Int32))), (0, .ref (fw_ad E 0 18)), (1, .int x1), (2, .int x2), (3, .int x3), (5, .int x5)]) hx hb dX10_pairCount_71 hl (by decide) rfl (fun ls hl => ?_)
              refine lv_iinc (v := (x5 + (1 : Int32))) (lv' := [(5, .int (x5 + (1 : Int32))), (4, .int (x4 + (1 : Int32))), (0, .ref (fw_ad E 0 18)), (1, .int x1), (2, .int x2), (3, .int x3)]) hx hb dX10_pairCount_73 hl (k := 5) rfl rfl (by decide) rfl (fun ls hl => ?_)
              refine lv_goto (tgt := 41) hx hb dX10_pairCount_76 (by decide) ?_
              exact ih41 μ x1 x2 x3 (x4 + (1 : Int32)) (x5 + (1 : Int32)) H locs ls h hP hS (lv_sub hl [2, 3, 4, 5, 1, 0] rfl)
      intro μ x1 x2 x3 H locs ls h hP hS hl
      rw [f_X10_pairCount_L29] at h
      refine lv_iload_n hx hb dX10_pairCount_29 rfl (lv_at hl 3 rfl) ?_
      refine lv_bipush (v := (8 : Int32)) hx hb dX10_pairCount_30 (by decide) ?_
      refine lv_icmp_ge (tgt := 92) hx hb dX10_pairCount_32 (by decide) (fun c5 => ?_) (fun c5 => ?_)
      · rw [if_pos c5] at h
        refine lv_iload_n hx hb dX10_pairCount_92 rfl (lv_at hl 2 rfl) ?_
        exact W.iret (v := x2) hx hb hr (fw_ew (mk := Value.int) h hP hS) hS.2.2 dX10_pairCount_93
      · rw [if_neg c5] at h
        refine lv_iconst (v := (0 : Int32)) hx hb dX10_pairCount_35 (by decide) ?_
        refine lv_istore (lv' := [(4, .int (0 : Int32)), (0, .ref (fw_ad E 0 18)), (1, .int x1), (2, .int x2), (3, .int x3)]) hx hb dX10_pairCount_36 hl (by decide) rfl (fun ls hl => ?_)
        refine lv_iconst (v := (0 : Int32)) hx hb dX10_pairCount_38 (by decide) ?_
        refine lv_istore (lv' := [(5, .int (0 : Int32)), (4, .int (0 : Int32)), (0, .ref (fw_ad E 0 18)), (1, .int x1), (2, .int x2), (3, .int x3)]) hx hb dX10_pairCount_39 hl (by decide) rfl (fun ls hl => ?_)
        exact L41 1000 μ x1 x2 x3 (0 : Int32) (0 : Int32) H locs ls h hP hS (lv_sub hl [2, 3, 4, 5, 1, 0] rfl)
  have J13 : ∀ (μ : fw_M) (x1 : Int32) (s1 : Int32) (H : Heap) (locs : List Loc) (ls : Array Slot), f_X10_pairCount_J13 μ x1 s1 = some (μ', r) → fw_P E o d μ H → va_S (fw_A E) s.heap H locs → lv_has ls 6 [(0, .ref (fw_ad E 0 18)), (1, .int x1)] → W p l e (headSpec (fw_ws yX10_pairCount cX10_pairCount 6 (some .int)) ({ frames := 2, cells := 0, slots := 0, locals := 45 } : Room)).room s m args below meth c H locs 0 0 (MQ below (fw_Q E o d (some (.int r)) μ') args s 0 0 (fw_A E)) (F0 m 13 ls [.int s1, .ref (fw_ad E 0 18)]) := by
    intro μ x1 s1 H locs ls h hP hS hl
    unfold f_X10_pairCount_J13 at h
    refine fw_put (ci := 8) (v := .int s1) (ty := .int) (C := RX10) (T := TX10) (N := 20) hx hb hU inU10 tyX10 tyX10_ok nmX10 hown hK hP hE hS (fw_V0 (f := 18) (by decide) (by decide)) rfl rfl 0 (by decide) (hU (Cond.fieldLink RX10 41 "LaundryServiceModel" "thrown" "I") m_1117) (fun _ h9 => h9) rfl (by decide +kernel) rfl rfl (Nat.le_of_ble_eq_true rfl) 0 s1 (by rw [fw_u_c]; rfl) dX10_pairCount_13 (fun H locs hP hS => ?_)
    obtain ⟨μ3, eμ3, h⟩ := fw_l_e h
    rw [← eμ3] at hP
    refine lv_aload_n hx hb dX10_pairCount_16 rfl (lv_at hl 0 rfl) ?_
    refine va_get (D := fw_D E) (ci := 8) (v := .int (μ3 0 18 0)) (C := RX10) (T := TX10) (N := 20) hx hb hU inU10 hown hK (fw_at hP (fw_V0 (f := 18) (by decide) (by decide))) 0 rfl rfl 0 (by decide) (hU (Cond.fieldLink RX10 41 "LaundryServiceModel" "thrown" "I") m_1117) (fun _ h9 => h9) rfl dX10_pairCount_17 ?_
    refine lv_if_le (tgt := 25) hx hb dX10_pairCount_20 (by decide) (fun c4 => ?_) (fun c4 => ?_)
    · rw [if_pos c4] at h
      refine lv_iconst (v := (0 : Int32)) hx hb dX10_pairCount_25 (by decide) ?_
      refine lv_istore_n (lv' := [(2, .int (0 : Int32)), (0, .ref (fw_ad E 0 18)), (1, .int x1)]) hx hb dX10_pairCount_26 rfl hl (by decide) rfl (fun ls hl => ?_)
      refine lv_iconst (v := (0 : Int32)) hx hb dX10_pairCount_27 (by decide) ?_
      refine lv_istore_n (lv' := [(3, .int (0 : Int32)), (2, .int (0 : Int32)), (0, .ref (fw_ad E 0 18)), (1, .int x1)]) hx hb dX10_pairCount_28 rfl hl (by decide) rfl (fun ls hl => ?_)
      exact L29 1000 μ3 x1 (0 : Int32) (0 : Int32) H locs ls h hP hS (lv_sub hl [2, 3, 1, 0] rfl)
    · rw [if_neg c4] at h
      refine lv_iconst (v := (0 : Int32)) hx hb dX10_pairCount_23 (by decide) ?_
      exact W.iret (v := (0 : Int32)) hx hb hr (fw_ew (mk := Value.int) h hP hS) hS.2.2 dX10_pairCount_24
  have EN : ∀ (H : Heap) (locs : List Loc) (ls : Array Slot), fw_P E o d μ H → va_S (fw_A E) s.heap H locs → lv_has ls 6 [(0, .ref (fw_ad E 0 18)), (1, .int x1)] → W p l e (headSpec (fw_ws yX10_pairCount cX10_pairCount 6 (some .int)) ({ frames := 2, cells := 0, slots := 0, locals := 45 } : Room)).room s m args below meth c H locs 0 0 (MQ below (fw_Q E o d (some (.int r)) μ') args s 0 0 (fw_A E)) (F0 m 0 ls []) := by
    intro H locs ls hP hS hl
    unfold f_X10_pairCount at h
    refine lv_aload_n hx hb dX10_pairCount_0 rfl (lv_at hl 0 rfl) ?_
    refine lv_iload_n hx hb dX10_pairCount_1 rfl (lv_at hl 1 rfl) ?_
    obtain ⟨r1, hc1, h⟩ := fw_b1_e h
    refine fw_ret (va_runS (As := [.int x1]) (rest := [.ref (fw_ad E 0 18)]) ⟨hx, hb, hml, hown, hU⟩ (k_X10_isClient l hE x1 hc1) (va_cwS 1 hU (fw_gS m_1194 m_1195 m_9 m_1196) rfl rfl rfl (by decide +kernel) ⟨(Nat.le_of_ble_eq_true rfl), (Nat.le_of_ble_eq_true rfl)⟩) ⟨fw_blind, fun U hU9 hW9 => ⟨rfl, fw_pre hK hP hSt hS U hU9 hW9⟩⟩ rfl rfl hl.1 rfl (lv_room (Nat.le_of_ble_eq_true rfl)) dX10_pairCount_2 ⟨Nat.zero_le _, Nat.zero_le _⟩) hS (fun H locs hP hS => ?_)
    refine lv_if_eq (tgt := 12) hx hb dX10_pairCount_5 (by decide) (fun c2 => ?_) (fun c2 => ?_)
    · rw [if_pos c2] at h
      refine lv_iconst (v := (1 : Int32)) hx hb dX10_pairCount_12 (by decide) ?_
      exact J13 μ x1 (1 : Int32) H locs ls h hP hS (lv_sub hl [0, 1] rfl)
    · rw [if_neg c2] at h
      refine lv_iconst (v := (0 : Int32)) hx hb dX10_pairCount_8 (by decide) ?_
      refine lv_goto (tgt := 13) hx hb dX10_pairCount_9 (by decide) ?_
      exact J13 μ x1 (0 : Int32) H locs ls h hP hS (lv_sub hl [0, 1] rfl)
  subst ha
  have hl := lv_entry ([.ref (fw_ad E 0 18), .int x1]) (n := 6) (Nat.le_of_ble_eq_true rfl)
  rw [lg_entry_eq]
  generalize (lg_sl ([.ref (fw_ad E 0 18), .int x1]) ++ List.replicate (6 - (lg_sl ([.ref (fw_ad E 0 18), .int x1])).length) Slot.unset).toArray = ls at hl ⊢
  exact EN s.heap [] ls hP va_S.rf hl
set_option maxHeartbeats 4000000 in
set_option maxRecDepth 100000 in
theorem k_X10_pairCountByParity (l : Launch) {E : fw_E} {o : Int64} {d : UInt64} (hE : fw_ok E) {μ μ' : fw_M} (x1 : Int32) {r : Int32} (h : f_X10_pairCountByParity μ x1 = some (μ', r)) : Met l yX10_pairCountByParity (fw_ws yX10_pairCountByParity cX10_pairCountByParity 2 (some .int)) ({ frames := 3, cells := 0, slots := 0, locals := 70 } : Room) (va_Pc [.ref (fw_ad E 0 18), .int x1] (fw_Pre E o d μ)) (fw_Q E o d (some (.int r)) μ') 0 0 (fw_A E) := by
  refine Met.ofW (cc := cX10_pairCountByParity) (maxL := 2) (ret := (some .int)) (by decide) rfl ?_
  intro p e s m args below meth c s₁ B hml hv
  obtain ⟨ha, hK, hP, hSt⟩ := hv
  have hx := B.exec
  have hb := B.bytes
  have hr := B.returns
  have hts := atoms_spec (ws := fw_ws yX10_pairCountByParity cX10_pairCountByParity 2 (some .int)) B.pre
  have hU : ∀ w ∈ fw_U, w.before args s = true := fun w hw => hts w (List.mem_cons_of_mem _ hw)
  have hown : s.vm.findClass RX10 = some m.cls := findClass_of_methodNamed B.named
  have hlocks := B.notSynchronized
  have EN : ∀ (H : Heap) (locs : List Loc) (ls : Array Slot), fw_P E o d μ H → va_S (fw_A E) s.heap H locs → lv_has ls 2 [(0, .ref (fw_ad E 0 18)), (1, .int x1)] → W p l e (headSpec (fw_ws yX10_pairCountByParity cX10_pairCountByParity 2 (some .int)) ({ frames := 3, cells := 0, slots := 0, locals := 70 } : Room)).room s m args below meth c H locs 0 0 (MQ below (fw_Q E o d (some (.int r)) μ') args s 0 0 (fw_A E)) (F0 m 0 ls []) := by
    intro H locs ls hP hS hl
    unfold f_X10_pairCountByParity at h
    refine lv_aload_n hx hb dX10_pairCountByParity_0 rfl (lv_at hl 0 rfl) ?_
    refine lv_iload_n hx hb dX10_pairCountByParity_1 rfl (lv_at hl 1 rfl) ?_
    obtain ⟨μ1, r1, hc1, h⟩ := fw_b2_e h
    refine fw_ret (va_runV (As := [.int x1]) (rest := []) ⟨hx, hb, hml, hown, hU⟩ (k_X10_pairCount l hE x1 hc1) (cwV 1 hU (fw_gV m_1387 m_1380 m_1381 m_9 m_1382) rfl rfl rfl (by decide +kernel) ⟨(Nat.le_of_ble_eq_true rfl), (Nat.le_of_ble_eq_true rfl)⟩) ⟨fw_blind, fw_recv hK hP (fw_V0 (f := 18) (by decide) (by decide)) rfl rfl, fun U hU9 hW9 => ⟨rfl, fw_pre hK hP hSt hS U hU9 hW9⟩⟩ rfl rfl hl.1 rfl (lv_room (Nat.le_of_ble_eq_true rfl)) dX10_pairCountByParity_2 ⟨Nat.zero_le _, Nat.zero_le _⟩) hS (fun H locs hP hS => ?_)
    exact W.iret (v := r1) hx hb hr (fw_ew (mk := Value.int) h hP hS) hS.2.2 dX10_pairCountByParity_5
  subst ha
  have hl := lv_entry ([.ref (fw_ad E 0 18), .int x1]) (n := 2) (Nat.le_of_ble_eq_true rfl)
  rw [lg_entry_eq]
  generalize (lg_sl ([.ref (fw_ad E 0 18), .int x1]) ++ List.replicate (2 - (lg_sl ([.ref (fw_ad E 0 18), .int x1])).length) Slot.unset).toArray = ls at hl ⊢
  exact EN s.heap [] ls hP va_S.rf hl
set_option maxHeartbeats 4000000 in
set_option maxRecDepth 100000 in
theorem k_X10_inBag (l : Launch) {E : fw_E} {o : Int64} {d : UInt64} (hE : fw_ok E) {μ μ' : fw_M} (x1 : Int32) {r : Int32} (h : f_X10_inBag μ x1 = some (μ', r)) : Met l yX10_inBag (fw_ws yX10_inBag cX10_inBag 4 (some .int)) ({ frames := 2, cells := 0, slots := 0, locals := 42 } : Room) (va_Pc [.ref (fw_ad E 0 18), .int x1] (fw_Pre E o d μ)) (fw_Q E o d (some (.int r)) μ') 0 0 (fw_A E) := by
  refine Met.ofW (cc := cX10_inBag) (maxL := 4) (ret := (some .int)) (by decide) rfl ?_
  intro p e s m args below meth c s₁ B hml hv
  obtain ⟨ha, hK, hP, hSt⟩ := hv
  have hx := B.exec
  have hb := B.bytes
  have hr := B.returns
  have hts := atoms_spec (ws := fw_ws yX10_inBag cX10_inBag 4 (some .int)) B.pre
  have hU : ∀ w ∈ fw_U, w.before args s = true := fun w hw => hts w (List.mem_cons_of_mem _ hw)
  have hown : s.vm.findClass RX10 = some m.cls := findClass_of_methodNamed B.named
  have hlocks := B.notSynchronized
  have L20 : ∀ (n : Nat) (μ : fw_M) (x1 : Int32) (x2 : Int32) (x3 : Int32) (H : Heap) (locs : List Loc) (ls : Array Slot), f_X10_inBag_L20 n μ x1 x2 x3 = some (μ', r) → fw_P E o d μ H → va_S (fw_A E) s.heap H locs → lv_has ls 4 [(0, .ref (fw_ad E 0 18)), (1, .int x1), (2, .int x2), (3, .int x3)] → W p l e (headSpec (fw_ws yX10_inBag cX10_inBag 4 (some .int)) ({ frames := 2, cells := 0, slots := 0, locals := 42 } : Room)).room s m args below meth c H locs 0 0 (MQ below (fw_Q E o d (some (.int r)) μ') args s 0 0 (fw_A E)) (F0 m 20 ls []) := by
    intro n20
    induction n20 with
    | zero => intro μ x1 x2 x3 H locs ls h; rw [f_X10_inBag_L20] at h; cases h
    | succ n20 ih20 =>
      intro μ x1 x2 x3 H locs ls h hP hS hl
      rw [f_X10_inBag_L20] at h
      refine lv_iload_n hx hb dX10_inBag_20 rfl (lv_at hl 3 rfl) ?_
      refine lv_aload_n hx hb dX10_inBag_21 rfl (lv_at hl 0 rfl) ?_
      refine va_get (D := fw_D E) (ci := 8) (v := .ref (fw_ad E 0 19)) (C := RX10) (T := TX10) (N := 20) hx hb hU inU10 hown hK (fw_at hP (fw_V0 (f := 18) (by decide) (by decide))) 0 rfl rfl 1 (by decide) (hU (Cond.fieldLink RX10 7 "LaundryServiceModel" "s" "[I") m_1118) (fun _ h9 => h9) rfl dX10_inBag_22 ?_
      refine lv_iconst (v := (0 : Int32)) hx hb dX10_inBag_25 (by decide) ?_
      refine va_iald (D := fw_D E) hx hb hK (fw_at hP (fw_V0 (f := 19) (by decide) (by decide))) 0 0 rfl rfl (fw_in_e (n := 104) (by decide)) dX10_inBag_26 ?_
      refine lv_icmp_ge (tgt := 72) hx hb dX10_inBag_27 (by decide) (fun c5 => ?_) (fun c5 => ?_)
      · rw [if_pos c5] at h
        refine lv_iload_n hx hb dX10_inBag_72 rfl (lv_at hl 2 rfl) ?_
        exact W.iret (v := x2) hx hb hr (fw_ew (mk := Value.int) h hP hS) hS.2.2 dX10_inBag_73
      · rw [if_neg c5] at h
        refine lv_aload_n hx hb dX10_inBag_30 rfl (lv_at hl 0 rfl) ?_
        refine va_get (D := fw_D E) (ci := 8) (v := .int (μ 0 18 0)) (C := RX10) (T := TX10) (N := 20) hx hb hU inU10 hown hK (fw_at hP (fw_V0 (f := 18) (by decide) (by decide))) 0 rfl rfl 0 (by decide) (hU (Cond.fieldLink RX10 41 "LaundryServiceModel" "thrown" "I") m_1117) (fun _ h9 => h9) rfl dX10_inBag_31 ?_
        refine lv_if_ne (tgt := 72) hx hb dX10_inBag_34 (by decide) (fun c6 => ?_) (fun c6 => ?_)
        · rw [if_neg c6] at h
          refine lv_iload_n hx hb dX10_inBag_72 rfl (lv_at hl 2 rfl) ?_
          exact W.iret (v := x2) hx hb hr (fw_ew (mk := Value.int) h hP hS) hS.2.2 dX10_inBag_73
        · rw [if_pos c6] at h
          refine lv_iload_n hx hb dX10_inBag_37 rfl (lv_at hl 2 rfl) ?_
          refine lv_aload_n hx hb dX10_inBag_38 rfl (lv_at hl 0 rfl) ?_
          refine lv_iload_n hx hb dX10_inBag_39 rfl (lv_at hl 3 rfl) ?_
          refine lv_iconst (v := (4 : Int32)) hx hb dX10_inBag_40 (by decide) ?_
          obtain ⟨r7, hc7, h⟩ := fw_b1_e h
          refine fw_ret (va_runV (As := [.int x3, .int (4 : Int32)]) (rest := [.int x2]) ⟨hx, hb, hml, hown, hU⟩ (k_X10_of l hE x3 (4 : Int32) hc7) (cwV 2 hU (fw_gV m_1235 m_1237 ms_20 m_9 m_1238) rfl rfl rfl (by decide +kernel) ⟨(Nat.le_of_ble_eq_true rfl), (Nat.le_of_ble_eq_true rfl)⟩) ⟨fw_blind, fw_recv hK hP (fw_V0 (f := 18) (by decide) (by decide)) rfl rfl, fun U hU9 hW9 => ⟨rfl, fw_pre hK hP hSt hS U hU9 hW9⟩⟩ rfl rfl hl.1 rfl (lv_room (Nat.le_of_ble_eq_true rfl)) dX10_inBag_41 ⟨Nat.zero_le _, Nat.zero_le _⟩) hS (fun H locs hP hS => ?_)
          refine lv_if_ne (tgt := 63) hx hb dX10_inBag_44 (by decide) (fun c8 => ?_) (fun c8 => ?_)
          · rw [if_neg c8] at h
            refine lv_iconst (v := (0 : Int32)) hx hb dX10_inBag_63 (by decide) ?_
            refine lv_ior hx hb dX10_inBag_64 ?_
            refine lv_istore_n (lv' := [(2, .int (x2 ||| (0 : Int32))), (0, .ref (fw_ad E 0 18)), (1, .int x1), (3, .int x3)]) hx hb dX10_inBag_65 rfl hl (by decide) rfl (fun ls hl => ?_)
            refine lv_iinc (v := (x3 + (1 : Int32))) (lv' := [(3, .int (x3 + (1 : Int32))), (2, .int (x2 ||| (0 : Int32))), (0, .ref (fw_ad E 0 18)), (1, .int x1)]) hx hb dX10_inBag_66 hl (k := 3) rfl rfl (by decide) rfl (fun ls hl => ?_)
            refine lv_goto (tgt := 20) hx hb dX10_inBag_69 (by decide) ?_
            exact ih20 μ x1 (x2 ||| (0 : Int32)) (x3 + (1 : Int32)) H locs ls h hP hS (lv_sub hl [2, 3, 1, 0] rfl)
          · rw [if_pos c8] at h
            refine lv_aload_n hx hb dX10_inBag_47 rfl (lv_at hl 0 rfl) ?_
            refine lv_iload_n hx hb dX10_inBag_48 rfl (lv_at hl 3 rfl) ?_
            refine lv_iconst (v := (0 : Int32)) hx hb dX10_inBag_49 (by decide) ?_
            obtain ⟨r9, hc9, h⟩ := fw_b1_e h
            refine fw_ret (va_runV (As := [.int x3, .int (0 : Int32)]) (rest := [.int x2]) ⟨hx, hb, hml, hown, hU⟩ (k_X10_of l hE x3 (0 : Int32) hc9) (cwV 2 hU (fw_gV m_1235 m_1237 ms_20 m_9 m_1238) rfl rfl rfl (by decide +kernel) ⟨(Nat.le_of_ble_eq_true rfl), (Nat.le_of_ble_eq_true rfl)⟩) ⟨fw_blind, fw_recv hK hP (fw_V0 (f := 18) (by decide) (by decide)) rfl rfl, fun U hU9 hW9 => ⟨rfl, fw_pre hK hP hSt hS U hU9 hW9⟩⟩ rfl rfl hl.1 rfl (lv_room (Nat.le_of_ble_eq_true rfl)) dX10_inBag_50 ⟨Nat.zero_le _, Nat.zero_le _⟩) hS (fun H locs hP hS => ?_)
            refine lv_iload_n hx hb dX10_inBag_53 rfl (lv_at hl 1 rfl) ?_
            refine lv_icmp_ne (tgt := 63) hx hb dX10_inBag_54 (by decide) (fun c10 => ?_) (fun c10 => ?_)
            · rw [if_neg c10] at h
              refine lv_iconst (v := (0 : Int32)) hx hb dX10_inBag_63 (by decide) ?_
              refine lv_ior hx hb dX10_inBag_64 ?_
              refine lv_istore_n (lv' := [(2, .int (x2 ||| (0 : Int32))), (0, .ref (fw_ad E 0 18)), (1, .int x1), (3, .int x3)]) hx hb dX10_inBag_65 rfl hl (by decide) rfl (fun ls hl => ?_)
              refine lv_iinc (v := (x3 + (1 : Int32))) (lv' := [(3, .int (x3 + (1 : Int32))), (2, .int (x2 ||| (0 : Int32))), (0, .ref (fw_ad E 0 18)), (1, .int x1)]) hx hb dX10_inBag_66 hl (k := 3) rfl rfl (by decide) rfl (fun ls hl => ?_)
              refine lv_goto (tgt := 20) hx hb dX10_inBag_69 (by decide) ?_
              exact ih20 μ x1 (x2 ||| (0 : Int32)) (x3 + (1 : Int32)) H locs ls h hP hS (lv_sub hl [2, 3, 1, 0] rfl)
            · rw [if_pos c10] at h
              refine lv_iconst (v := (1 : Int32)) hx hb dX10_inBag_57 (by decide) ?_
              refine lv_iload_n hx hb dX10_inBag_58 rfl (lv_at hl 3 rfl) ?_
              refine lv_ishl hx hb dX10_inBag_59 ?_
              refine lv_goto (tgt := 64) hx hb dX10_inBag_60 (by decide) ?_
              refine lv_ior hx hb dX10_inBag_64 ?_
              refine lv_istore_n (lv' := [(2, .int (x2 ||| ((1 : Int32) <<< (x3 &&& (31 : Int32))))), (0, .ref (fw_ad E 0 18)), (1, .int x1), (3, .int x3)]) hx hb dX10_inBag_65 rfl hl (by decide) rfl (fun ls hl => ?_)
              refine lv_iinc (v := (x3 + (1 : Int32))) (lv' := [(3, .int (x3 + (1 : Int32))), (2, .int (x2 ||| ((1 : Int32) <<< (x3 &&& (31 : Int32))))), (0, .ref (fw_ad E 0 18)), (1, .int x1)]) hx hb dX10_inBag_66 hl (k := 3) rfl rfl (by decide) rfl (fun ls hl => ?_)
              refine lv_goto (tgt := 20) hx hb dX10_inBag_69 (by decide) ?_
              exact ih20 μ x1 (x2 ||| ((1 : Int32) <<< (x3 &&& (31 : Int32)))) (x3 + (1 : Int32)) H locs ls h hP hS (lv_sub hl [2, 3, 1, 0] rfl)
  have EN : ∀ (H : Heap) (locs : List Loc) (ls : Array Slot), fw_P E o d μ H → va_S (fw_A E) s.heap H locs → lv_has ls 4 [(0, .ref (fw_ad E 0 18)), (1, .int x1)] → W p l e (headSpec (fw_ws yX10_inBag cX10_inBag 4 (some .int)) ({ frames := 2, cells := 0, slots := 0, locals := 42 } : Room)).room s m args below meth c H locs 0 0 (MQ below (fw_Q E o d (some (.int r)) μ') args s 0 0 (fw_A E)) (F0 m 0 ls []) := by
    intro H locs ls hP hS hl
    unfold f_X10_inBag at h
    refine lv_aload_n hx hb dX10_inBag_0 rfl (lv_at hl 0 rfl) ?_
    refine lv_iload_n hx hb dX10_inBag_1 rfl (lv_at hl 1 rfl) ?_
    obtain ⟨r1, hc1, h⟩ := fw_b1_e h
    refine fw_ret (va_runS (As := [.int x1]) (rest := [.ref (fw_ad E 0 18)]) ⟨hx, hb, hml, hown, hU⟩ (k_X10_isClient l hE x1 hc1) (va_cwS 1 hU (fw_gS m_1194 m_1195 m_9 m_1196) rfl rfl rfl (by decide +kernel) ⟨(Nat.le_of_ble_eq_true rfl), (Nat.le_of_ble_eq_true rfl)⟩) ⟨fw_blind, fun U hU9 hW9 => ⟨rfl, fw_pre hK hP hSt hS U hU9 hW9⟩⟩ rfl rfl hl.1 rfl (lv_room (Nat.le_of_ble_eq_true rfl)) dX10_inBag_2 ⟨Nat.zero_le _, Nat.zero_le _⟩) hS (fun H locs hP hS => ?_)
    refine lv_if_eq (tgt := 12) hx hb dX10_inBag_5 (by decide) (fun c2 => ?_) (fun c2 => ?_)
    · rw [if_pos c2] at h
      refine lv_iconst (v := (1 : Int32)) hx hb dX10_inBag_12 (by decide) ?_
      refine fw_put (ci := 8) (v := .int (1 : Int32)) (ty := .int) (C := RX10) (T := TX10) (N := 20) hx hb hU inU10 tyX10 tyX10_ok nmX10 hown hK hP hE hS (fw_V0 (f := 18) (by decide) (by decide)) rfl rfl 0 (by decide) (hU (Cond.fieldLink RX10 41 "LaundryServiceModel" "thrown" "I") m_1117) (fun _ h9 => h9) rfl (by decide +kernel) rfl rfl (Nat.le_of_ble_eq_true rfl) 0 (1 : Int32) (by rw [fw_u_c]; rfl) dX10_inBag_13 (fun H locs hP hS => ?_)
      obtain ⟨μ3, eμ3, h⟩ := fw_l_e h
      rw [← eμ3] at hP
      refine lv_iconst (v := (0 : Int32)) hx hb dX10_inBag_16 (by decide) ?_
      refine lv_istore_n (lv' := [(2, .int (0 : Int32)), (0, .ref (fw_ad E 0 18)), (1, .int x1)]) hx hb dX10_inBag_17 rfl hl (by decide) rfl (fun ls hl => ?_)
      refine lv_iconst (v := (0 : Int32)) hx hb dX10_inBag_18 (by decide) ?_
      refine lv_istore_n (lv' := [(3, .int (0 : Int32)), (2, .int (0 : Int32)), (0, .ref (fw_ad E 0 18)), (1, .int x1)]) hx hb dX10_inBag_19 rfl hl (by decide) rfl (fun ls hl => ?_)
      exact L20 1000 μ3 x1 (0 : Int32) (0 : Int32) H locs ls h hP hS (lv_sub hl [2, 3, 1, 0] rfl)
    · rw [if_neg c2] at h
      refine lv_iconst (v := (0 : Int32)) hx hb dX10_inBag_8 (by decide) ?_
      refine lv_goto (tgt := 13) hx hb dX10_inBag_9 (by decide) ?_
      refine fw_put (ci := 8) (v := .int (0 : Int32)) (ty := .int) (C := RX10) (T := TX10) (N := 20) hx hb hU inU10 tyX10 tyX10_ok nmX10 hown hK hP hE hS (fw_V0 (f := 18) (by decide) (by decide)) rfl rfl 0 (by decide) (hU (Cond.fieldLink RX10 41 "LaundryServiceModel" "thrown" "I") m_1117) (fun _ h9 => h9) rfl (by decide +kernel) rfl rfl (Nat.le_of_ble_eq_true rfl) 0 (0 : Int32) (by rw [fw_u_c]; rfl) dX10_inBag_13 (fun H locs hP hS => ?_)
      obtain ⟨μ4, eμ4, h⟩ := fw_l_e h
      rw [← eμ4] at hP
      refine lv_iconst (v := (0 : Int32)) hx hb dX10_inBag_16 (by decide) ?_
      refine lv_istore_n (lv' := [(2, .int (0 : Int32)), (0, .ref (fw_ad E 0 18)), (1, .int x1)]) hx hb dX10_inBag_17 rfl hl (by decide) rfl (fun ls hl => ?_)
      refine lv_iconst (v := (0 : Int32)) hx hb dX10_inBag_18 (by decide) ?_
      refine lv_istore_n (lv' := [(3, .int (0 : Int32)), (2, .int (0 : Int32)), (0, .ref (fw_ad E 0 18)), (1, .int x1)]) hx hb dX10_inBag_19 rfl hl (by decide) rfl (fun ls hl => ?_)
      exact L20 1000 μ4 x1 (0 : Int32) (0 : Int32) H locs ls h hP hS (lv_sub hl [2, 3, 1, 0] rfl)
  subst ha
  have hl := lv_entry ([.ref (fw_ad E 0 18), .int x1]) (n := 4) (Nat.le_of_ble_eq_true rfl)
  rw [lg_entry_eq]
  generalize (lg_sl ([.ref (fw_ad E 0 18), .int x1]) ++ List.replicate (4 - (lg_sl ([.ref (fw_ad E 0 18), .int x1])).length) Slot.unset).toArray = ls at hl ⊢
  exact EN s.heap [] ls hP va_S.rf hl
set_option maxHeartbeats 4000000 in
set_option maxRecDepth 100000 in
theorem k_X10_inMachine (l : Launch) {E : fw_E} {o : Int64} {d : UInt64} (hE : fw_ok E) {μ μ' : fw_M} (x1 : Int32) {r : Int32} (h : f_X10_inMachine μ x1 = some (μ', r)) : Met l yX10_inMachine (fw_ws yX10_inMachine cX10_inMachine 4 (some .int)) ({ frames := 2, cells := 0, slots := 0, locals := 44 } : Room) (va_Pc [.ref (fw_ad E 0 18), .int x1] (fw_Pre E o d μ)) (fw_Q E o d (some (.int r)) μ') 0 0 (fw_A E) := by
  refine Met.ofW (cc := cX10_inMachine) (maxL := 4) (ret := (some .int)) (by decide) rfl ?_
  intro p e s m args below meth c s₁ B hml hv
  obtain ⟨ha, hK, hP, hSt⟩ := hv
  have hx := B.exec
  have hb := B.bytes
  have hr := B.returns
  have hts := atoms_spec (ws := fw_ws yX10_inMachine cX10_inMachine 4 (some .int)) B.pre
  have hU : ∀ w ∈ fw_U, w.before args s = true := fun w hw => hts w (List.mem_cons_of_mem _ hw)
  have hown : s.vm.findClass RX10 = some m.cls := findClass_of_methodNamed B.named
  have hlocks := B.notSynchronized
  have L20 : ∀ (n : Nat) (μ : fw_M) (x1 : Int32) (x2 : Int32) (x3 : Int32) (H : Heap) (locs : List Loc) (ls : Array Slot), f_X10_inMachine_L20 n μ x1 x2 x3 = some (μ', r) → fw_P E o d μ H → va_S (fw_A E) s.heap H locs → lv_has ls 4 [(0, .ref (fw_ad E 0 18)), (1, .int x1), (2, .int x2), (3, .int x3)] → W p l e (headSpec (fw_ws yX10_inMachine cX10_inMachine 4 (some .int)) ({ frames := 2, cells := 0, slots := 0, locals := 44 } : Room)).room s m args below meth c H locs 0 0 (MQ below (fw_Q E o d (some (.int r)) μ') args s 0 0 (fw_A E)) (F0 m 20 ls []) := by
    intro n20
    induction n20 with
    | zero => intro μ x1 x2 x3 H locs ls h; rw [f_X10_inMachine_L20] at h; cases h
    | succ n20 ih20 =>
      intro μ x1 x2 x3 H locs ls h hP hS hl
      rw [f_X10_inMachine_L20] at h
      refine lv_iload_n hx hb dX10_inMachine_20 rfl (lv_at hl 3 rfl) ?_
      refine lv_aload_n hx hb dX10_inMachine_21 rfl (lv_at hl 0 rfl) ?_
      refine va_get (D := fw_D E) (ci := 8) (v := .ref (fw_ad E 0 19)) (C := RX10) (T := TX10) (N := 20) hx hb hU inU10 hown hK (fw_at hP (fw_V0 (f := 18) (by decide) (by decide))) 0 rfl rfl 1 (by decide) (hU (Cond.fieldLink RX10 7 "LaundryServiceModel" "s" "[I") m_1118) (fun _ h9 => h9) rfl dX10_inMachine_22 ?_
      refine lv_iconst (v := (0 : Int32)) hx hb dX10_inMachine_25 (by decide) ?_
      refine va_iald (D := fw_D E) hx hb hK (fw_at hP (fw_V0 (f := 19) (by decide) (by decide))) 0 0 rfl rfl (fw_in_e (n := 104) (by decide)) dX10_inMachine_26 ?_
      refine lv_icmp_ge (tgt := 62) hx hb dX10_inMachine_27 (by decide) (fun c5 => ?_) (fun c5 => ?_)
      · rw [if_pos c5] at h
        refine lv_iload_n hx hb dX10_inMachine_62 rfl (lv_at hl 2 rfl) ?_
        exact W.iret (v := x2) hx hb hr (fw_ew (mk := Value.int) h hP hS) hS.2.2 dX10_inMachine_63
      · rw [if_neg c5] at h
        refine lv_aload_n hx hb dX10_inMachine_30 rfl (lv_at hl 0 rfl) ?_
        refine va_get (D := fw_D E) (ci := 8) (v := .int (μ 0 18 0)) (C := RX10) (T := TX10) (N := 20) hx hb hU inU10 hown hK (fw_at hP (fw_V0 (f := 18) (by decide) (by decide))) 0 rfl rfl 0 (by decide) (hU (Cond.fieldLink RX10 41 "LaundryServiceModel" "thrown" "I") m_1117) (fun _ h9 => h9) rfl dX10_inMachine_31 ?_
        refine lv_if_ne (tgt := 62) hx hb dX10_inMachine_34 (by decide) (fun c6 => ?_) (fun c6 => ?_)
        · rw [if_neg c6] at h
          refine lv_iload_n hx hb dX10_inMachine_62 rfl (lv_at hl 2 rfl) ?_
          exact W.iret (v := x2) hx hb hr (fw_ew (mk := Value.int) h hP hS) hS.2.2 dX10_inMachine_63
        · rw [if_pos c6] at h
          refine lv_iload_n hx hb dX10_inMachine_37 rfl (lv_at hl 2 rfl) ?_
          refine lv_aload_n hx hb dX10_inMachine_38 rfl (lv_at hl 0 rfl) ?_
          refine lv_iload_n hx hb dX10_inMachine_39 rfl (lv_at hl 3 rfl) ?_
          refine lv_iload_n hx hb dX10_inMachine_40 rfl (lv_at hl 1 rfl) ?_
          obtain ⟨r7, hc7, h⟩ := fw_b1_e h
          refine fw_ret (va_runV (As := [.int x3, .int x1]) (rest := [.int x2]) ⟨hx, hb, hml, hown, hU⟩ (k_X10_isInside l hE x3 x1 hc7) (cwV 2 hU (fw_gV m_1243 m_1245 ms_22 m_9 m_1246) rfl rfl rfl (by decide +kernel) ⟨(Nat.le_of_ble_eq_true rfl), (Nat.le_of_ble_eq_true rfl)⟩) ⟨fw_blind, fw_recv hK hP (fw_V0 (f := 18) (by decide) (by decide)) rfl rfl, fun U hU9 hW9 => ⟨rfl, fw_pre hK hP hSt hS U hU9 hW9⟩⟩ rfl rfl hl.1 rfl (lv_room (Nat.le_of_ble_eq_true rfl)) dX10_inMachine_41 ⟨Nat.zero_le _, Nat.zero_le _⟩) hS (fun H locs hP hS => ?_)
          refine lv_if_eq (tgt := 53) hx hb dX10_inMachine_44 (by decide) (fun c8 => ?_) (fun c8 => ?_)
          · rw [if_pos c8] at h
            refine lv_iconst (v := (0 : Int32)) hx hb dX10_inMachine_53 (by decide) ?_
            refine lv_ior hx hb dX10_inMachine_54 ?_
            refine lv_istore_n (lv' := [(2, .int (x2 ||| (0 : Int32))), (0, .ref (fw_ad E 0 18)), (1, .int x1), (3, .int x3)]) hx hb dX10_inMachine_55 rfl hl (by decide) rfl (fun ls hl => ?_)
            refine lv_iinc (v := (x3 + (1 : Int32))) (lv' := [(3, .int (x3 + (1 : Int32))), (2, .int (x2 ||| (0 : Int32))), (0, .ref (fw_ad E 0 18)), (1, .int x1)]) hx hb dX10_inMachine_56 hl (k := 3) rfl rfl (by decide) rfl (fun ls hl => ?_)
            refine lv_goto (tgt := 20) hx hb dX10_inMachine_59 (by decide) ?_
            exact ih20 μ x1 (x2 ||| (0 : Int32)) (x3 + (1 : Int32)) H locs ls h hP hS (lv_sub hl [2, 3, 1, 0] rfl)
          · rw [if_neg c8] at h
            refine lv_iconst (v := (1 : Int32)) hx hb dX10_inMachine_47 (by decide) ?_
            refine lv_iload_n hx hb dX10_inMachine_48 rfl (lv_at hl 3 rfl) ?_
            refine lv_ishl hx hb dX10_inMachine_49 ?_
            refine lv_goto (tgt := 54) hx hb dX10_inMachine_50 (by decide) ?_
            refine lv_ior hx hb dX10_inMachine_54 ?_
            refine lv_istore_n (lv' := [(2, .int (x2 ||| ((1 : Int32) <<< (x3 &&& (31 : Int32))))), (0, .ref (fw_ad E 0 18)), (1, .int x1), (3, .int x3)]) hx hb dX10_inMachine_55 rfl hl (by decide) rfl (fun ls hl => ?_)
            refine lv_iinc (v := (x3 + (1 : Int32))) (lv' := [(3, .int (x3 + (1 : Int32))), (2, .int (x2 ||| ((1 : Int32) <<< (x3 &&& (31 : Int32))))), (0, .ref (fw_ad E 0 18)), (1, .int x1)]) hx hb dX10_inMachine_56 hl (k := 3) rfl rfl (by decide) rfl (fun ls hl => ?_)
            refine lv_goto (tgt := 20) hx hb dX10_inMachine_59 (by decide) ?_
            exact ih20 μ x1 (x2 ||| ((1 : Int32) <<< (x3 &&& (31 : Int32)))) (x3 + (1 : Int32)) H locs ls h hP hS (lv_sub hl [2, 3, 1, 0] rfl)
  have EN : ∀ (H : Heap) (locs : List Loc) (ls : Array Slot), fw_P E o d μ H → va_S (fw_A E) s.heap H locs → lv_has ls 4 [(0, .ref (fw_ad E 0 18)), (1, .int x1)] → W p l e (headSpec (fw_ws yX10_inMachine cX10_inMachine 4 (some .int)) ({ frames := 2, cells := 0, slots := 0, locals := 44 } : Room)).room s m args below meth c H locs 0 0 (MQ below (fw_Q E o d (some (.int r)) μ') args s 0 0 (fw_A E)) (F0 m 0 ls []) := by
    intro H locs ls hP hS hl
    unfold f_X10_inMachine at h
    refine lv_aload_n hx hb dX10_inMachine_0 rfl (lv_at hl 0 rfl) ?_
    refine lv_iload_n hx hb dX10_inMachine_1 rfl (lv_at hl 1 rfl) ?_
    obtain ⟨r1, hc1, h⟩ := fw_b1_e h
    refine fw_ret (va_runS (As := [.int x1]) (rest := [.ref (fw_ad E 0 18)]) ⟨hx, hb, hml, hown, hU⟩ (k_X10_isMachine l hE x1 hc1) (va_cwS 1 hU (fw_gS m_1232 m_1233 m_9 m_1234) rfl rfl rfl (by decide +kernel) ⟨(Nat.le_of_ble_eq_true rfl), (Nat.le_of_ble_eq_true rfl)⟩) ⟨fw_blind, fun U hU9 hW9 => ⟨rfl, fw_pre hK hP hSt hS U hU9 hW9⟩⟩ rfl rfl hl.1 rfl (lv_room (Nat.le_of_ble_eq_true rfl)) dX10_inMachine_2 ⟨Nat.zero_le _, Nat.zero_le _⟩) hS (fun H locs hP hS => ?_)
    refine lv_if_eq (tgt := 12) hx hb dX10_inMachine_5 (by decide) (fun c2 => ?_) (fun c2 => ?_)
    · rw [if_pos c2] at h
      refine lv_iconst (v := (1 : Int32)) hx hb dX10_inMachine_12 (by decide) ?_
      refine fw_put (ci := 8) (v := .int (1 : Int32)) (ty := .int) (C := RX10) (T := TX10) (N := 20) hx hb hU inU10 tyX10 tyX10_ok nmX10 hown hK hP hE hS (fw_V0 (f := 18) (by decide) (by decide)) rfl rfl 0 (by decide) (hU (Cond.fieldLink RX10 41 "LaundryServiceModel" "thrown" "I") m_1117) (fun _ h9 => h9) rfl (by decide +kernel) rfl rfl (Nat.le_of_ble_eq_true rfl) 0 (1 : Int32) (by rw [fw_u_c]; rfl) dX10_inMachine_13 (fun H locs hP hS => ?_)
      obtain ⟨μ3, eμ3, h⟩ := fw_l_e h
      rw [← eμ3] at hP
      refine lv_iconst (v := (0 : Int32)) hx hb dX10_inMachine_16 (by decide) ?_
      refine lv_istore_n (lv' := [(2, .int (0 : Int32)), (0, .ref (fw_ad E 0 18)), (1, .int x1)]) hx hb dX10_inMachine_17 rfl hl (by decide) rfl (fun ls hl => ?_)
      refine lv_iconst (v := (0 : Int32)) hx hb dX10_inMachine_18 (by decide) ?_
      refine lv_istore_n (lv' := [(3, .int (0 : Int32)), (2, .int (0 : Int32)), (0, .ref (fw_ad E 0 18)), (1, .int x1)]) hx hb dX10_inMachine_19 rfl hl (by decide) rfl (fun ls hl => ?_)
      exact L20 1000 μ3 x1 (0 : Int32) (0 : Int32) H locs ls h hP hS (lv_sub hl [2, 3, 1, 0] rfl)
    · rw [if_neg c2] at h
      refine lv_iconst (v := (0 : Int32)) hx hb dX10_inMachine_8 (by decide) ?_
      refine lv_goto (tgt := 13) hx hb dX10_inMachine_9 (by decide) ?_
      refine fw_put (ci := 8) (v := .int (0 : Int32)) (ty := .int) (C := RX10) (T := TX10) (N := 20) hx hb hU inU10 tyX10 tyX10_ok nmX10 hown hK hP hE hS (fw_V0 (f := 18) (by decide) (by decide)) rfl rfl 0 (by decide) (hU (Cond.fieldLink RX10 41 "LaundryServiceModel" "thrown" "I") m_1117) (fun _ h9 => h9) rfl (by decide +kernel) rfl rfl (Nat.le_of_ble_eq_true rfl) 0 (0 : Int32) (by rw [fw_u_c]; rfl) dX10_inMachine_13 (fun H locs hP hS => ?_)
      obtain ⟨μ4, eμ4, h⟩ := fw_l_e h
      rw [← eμ4] at hP
      refine lv_iconst (v := (0 : Int32)) hx hb dX10_inMachine_16 (by decide) ?_
      refine lv_istore_n (lv' := [(2, .int (0 : Int32)), (0, .ref (fw_ad E 0 18)), (1, .int x1)]) hx hb dX10_inMachine_17 rfl hl (by decide) rfl (fun ls hl => ?_)
      refine lv_iconst (v := (0 : Int32)) hx hb dX10_inMachine_18 (by decide) ?_
      refine lv_istore_n (lv' := [(3, .int (0 : Int32)), (2, .int (0 : Int32)), (0, .ref (fw_ad E 0 18)), (1, .int x1)]) hx hb dX10_inMachine_19 rfl hl (by decide) rfl (fun ls hl => ?_)
      exact L20 1000 μ4 x1 (0 : Int32) (0 : Int32) H locs ls h hP hS (lv_sub hl [2, 3, 1, 0] rfl)
  subst ha
  have hl := lv_entry ([.ref (fw_ad E 0 18), .int x1]) (n := 4) (Nat.le_of_ble_eq_true rfl)
  rw [lg_entry_eq]
  generalize (lg_sl ([.ref (fw_ad E 0 18), .int x1]) ++ List.replicate (4 - (lg_sl ([.ref (fw_ad E 0 18), .int x1])).length) Slot.unset).toArray = ls at hl ⊢
  exact EN s.heap [] ls hP va_S.rf hl
set_option maxHeartbeats 4000000 in
set_option maxRecDepth 100000 in
theorem k_X10_lost (l : Launch) {E : fw_E} {o : Int64} {d : UInt64} (hE : fw_ok E) {μ μ' : fw_M} {r : Int32} (h : f_X10_lost μ = some (μ', r)) : Met l yX10_lost (fw_ws yX10_lost cX10_lost 3 (some .int)) ({ frames := 1, cells := 0, slots := 0, locals := 22 } : Room) (va_Pc [.ref (fw_ad E 0 18)] (fw_Pre E o d μ)) (fw_Q E o d (some (.int r)) μ') 0 0 (fw_A E) := by
  refine Met.ofW (cc := cX10_lost) (maxL := 3) (ret := (some .int)) (by decide) rfl ?_
  intro p e s m args below meth c s₁ B hml hv
  obtain ⟨ha, hK, hP, hSt⟩ := hv
  have hx := B.exec
  have hb := B.bytes
  have hr := B.returns
  have hts := atoms_spec (ws := fw_ws yX10_lost cX10_lost 3 (some .int)) B.pre
  have hU : ∀ w ∈ fw_U, w.before args s = true := fun w hw => hts w (List.mem_cons_of_mem _ hw)
  have hown : s.vm.findClass RX10 = some m.cls := findClass_of_methodNamed B.named
  have hlocks := B.notSynchronized
  have L9 : ∀ (n : Nat) (μ : fw_M) (x1 : Int32) (x2 : Int32) (H : Heap) (locs : List Loc) (ls : Array Slot), f_X10_lost_L9 n μ x1 x2 = some (μ', r) → fw_P E o d μ H → va_S (fw_A E) s.heap H locs → lv_has ls 3 [(0, .ref (fw_ad E 0 18)), (1, .int x1), (2, .int x2)] → W p l e (headSpec (fw_ws yX10_lost cX10_lost 3 (some .int)) ({ frames := 1, cells := 0, slots := 0, locals := 22 } : Room)).room s m args below meth c H locs 0 0 (MQ below (fw_Q E o d (some (.int r)) μ') args s 0 0 (fw_A E)) (F0 m 9 ls []) := by
    intro n9
    induction n9 with
    | zero => intro μ x1 x2 H locs ls h; rw [f_X10_lost_L9] at h; cases h
    | succ n9 ih9 =>
      intro μ x1 x2 H locs ls h hP hS hl
      rw [f_X10_lost_L9] at h
      refine lv_iload_n hx hb dX10_lost_9 rfl (lv_at hl 2 rfl) ?_
      refine lv_aload_n hx hb dX10_lost_10 rfl (lv_at hl 0 rfl) ?_
      refine va_get (D := fw_D E) (ci := 8) (v := .ref (fw_ad E 0 19)) (C := RX10) (T := TX10) (N := 20) hx hb hU inU10 hown hK (fw_at hP (fw_V0 (f := 18) (by decide) (by decide))) 0 rfl rfl 1 (by decide) (hU (Cond.fieldLink RX10 7 "LaundryServiceModel" "s" "[I") m_1118) (fun _ h9 => h9) rfl dX10_lost_11 ?_
      refine lv_iconst (v := (0 : Int32)) hx hb dX10_lost_14 (by decide) ?_
      refine va_iald (D := fw_D E) hx hb hK (fw_at hP (fw_V0 (f := 19) (by decide) (by decide))) 0 0 rfl rfl (fw_in_e (n := 104) (by decide)) dX10_lost_15 ?_
      refine lv_icmp_ge (tgt := 45) hx hb dX10_lost_16 (by decide) (fun c2 => ?_) (fun c2 => ?_)
      · rw [if_pos c2] at h
        refine lv_iload_n hx hb dX10_lost_45 rfl (lv_at hl 1 rfl) ?_
        exact W.iret (v := x1) hx hb hr (fw_ew (mk := Value.int) h hP hS) hS.2.2 dX10_lost_46
      · rw [if_neg c2] at h
        refine lv_iload_n hx hb dX10_lost_19 rfl (lv_at hl 1 rfl) ?_
        refine lv_aload_n hx hb dX10_lost_20 rfl (lv_at hl 0 rfl) ?_
        refine lv_iload_n hx hb dX10_lost_21 rfl (lv_at hl 2 rfl) ?_
        refine lv_iconst (v := (4 : Int32)) hx hb dX10_lost_22 (by decide) ?_
        obtain ⟨r3, hc3, h⟩ := fw_b1_e h
        refine fw_ret (va_runV (As := [.int x2, .int (4 : Int32)]) (rest := [.int x1]) ⟨hx, hb, hml, hown, hU⟩ (k_X10_of l hE x2 (4 : Int32) hc3) (cwV 2 hU (fw_gV m_1235 m_1237 ms_20 m_9 m_1238) rfl rfl rfl (by decide +kernel) ⟨(Nat.le_of_ble_eq_true rfl), (Nat.le_of_ble_eq_true rfl)⟩) ⟨fw_blind, fw_recv hK hP (fw_V0 (f := 18) (by decide) (by decide)) rfl rfl, fun U hU9 hW9 => ⟨rfl, fw_pre hK hP hSt hS U hU9 hW9⟩⟩ rfl rfl hl.1 rfl (lv_room (Nat.le_of_ble_eq_true rfl)) dX10_lost_23 ⟨Nat.zero_le _, Nat.zero_le _⟩) hS (fun H locs hP hS => ?_)
        refine lv_iconst (v := (3 : Int32)) hx hb dX10_lost_26 (by decide) ?_
        refine lv_icmp_ne (tgt := 36) hx hb dX10_lost_27 (by decide) (fun c4 => ?_) (fun c4 => ?_)
        · rw [if_neg c4] at h
          refine lv_iconst (v := (0 : Int32)) hx hb dX10_lost_36 (by decide) ?_
          refine lv_ior hx hb dX10_lost_37 ?_
          refine lv_istore_n (lv' := [(1, .int (x1 ||| (0 : Int32))), (0, .ref (fw_ad E 0 18)), (2, .int x2)]) hx hb dX10_lost_38 rfl hl (by decide) rfl (fun ls hl => ?_)
          refine lv_iinc (v := (x2 + (1 : Int32))) (lv' := [(2, .int (x2 + (1 : Int32))), (1, .int (x1 ||| (0 : Int32))), (0, .ref (fw_ad E 0 18))]) hx hb dX10_lost_39 hl (k := 2) rfl rfl (by decide) rfl (fun ls hl => ?_)
          refine lv_goto (tgt := 9) hx hb dX10_lost_42 (by decide) ?_
          exact ih9 μ (x1 ||| (0 : Int32)) (x2 + (1 : Int32)) H locs ls h hP hS (lv_sub hl [2, 1, 0] rfl)
        · rw [if_pos c4] at h
          refine lv_iconst (v := (1 : Int32)) hx hb dX10_lost_30 (by decide) ?_
          refine lv_iload_n hx hb dX10_lost_31 rfl (lv_at hl 2 rfl) ?_
          refine lv_ishl hx hb dX10_lost_32 ?_
          refine lv_goto (tgt := 37) hx hb dX10_lost_33 (by decide) ?_
          refine lv_ior hx hb dX10_lost_37 ?_
          refine lv_istore_n (lv' := [(1, .int (x1 ||| ((1 : Int32) <<< (x2 &&& (31 : Int32))))), (0, .ref (fw_ad E 0 18)), (2, .int x2)]) hx hb dX10_lost_38 rfl hl (by decide) rfl (fun ls hl => ?_)
          refine lv_iinc (v := (x2 + (1 : Int32))) (lv' := [(2, .int (x2 + (1 : Int32))), (1, .int (x1 ||| ((1 : Int32) <<< (x2 &&& (31 : Int32))))), (0, .ref (fw_ad E 0 18))]) hx hb dX10_lost_39 hl (k := 2) rfl rfl (by decide) rfl (fun ls hl => ?_)
          refine lv_goto (tgt := 9) hx hb dX10_lost_42 (by decide) ?_
          exact ih9 μ (x1 ||| ((1 : Int32) <<< (x2 &&& (31 : Int32)))) (x2 + (1 : Int32)) H locs ls h hP hS (lv_sub hl [2, 1, 0] rfl)
  have EN : ∀ (H : Heap) (locs : List Loc) (ls : Array Slot), fw_P E o d μ H → va_S (fw_A E) s.heap H locs → lv_has ls 3 [(0, .ref (fw_ad E 0 18))] → W p l e (headSpec (fw_ws yX10_lost cX10_lost 3 (some .int)) ({ frames := 1, cells := 0, slots := 0, locals := 22 } : Room)).room s m args below meth c H locs 0 0 (MQ below (fw_Q E o d (some (.int r)) μ') args s 0 0 (fw_A E)) (F0 m 0 ls []) := by
    intro H locs ls hP hS hl
    unfold f_X10_lost at h
    refine lv_aload_n hx hb dX10_lost_0 rfl (lv_at hl 0 rfl) ?_
    refine lv_iconst (v := (0 : Int32)) hx hb dX10_lost_1 (by decide) ?_
    refine fw_put (ci := 8) (v := .int (0 : Int32)) (ty := .int) (C := RX10) (T := TX10) (N := 20) hx hb hU inU10 tyX10 tyX10_ok nmX10 hown hK hP hE hS (fw_V0 (f := 18) (by decide) (by decide)) rfl rfl 0 (by decide) (hU (Cond.fieldLink RX10 41 "LaundryServiceModel" "thrown" "I") m_1117) (fun _ h9 => h9) rfl (by decide +kernel) rfl rfl (Nat.le_of_ble_eq_true rfl) 0 (0 : Int32) (by rw [fw_u_c]; rfl) dX10_lost_2 (fun H locs hP hS => ?_)
    obtain ⟨μ1, eμ1, h⟩ := fw_l_e h
    rw [← eμ1] at hP
    refine lv_iconst (v := (0 : Int32)) hx hb dX10_lost_5 (by decide) ?_
    refine lv_istore_n (lv' := [(1, .int (0 : Int32)), (0, .ref (fw_ad E 0 18))]) hx hb dX10_lost_6 rfl hl (by decide) rfl (fun ls hl => ?_)
    refine lv_iconst (v := (0 : Int32)) hx hb dX10_lost_7 (by decide) ?_
    refine lv_istore_n (lv' := [(2, .int (0 : Int32)), (1, .int (0 : Int32)), (0, .ref (fw_ad E 0 18))]) hx hb dX10_lost_8 rfl hl (by decide) rfl (fun ls hl => ?_)
    exact L9 1000 μ1 (0 : Int32) (0 : Int32) H locs ls h hP hS (lv_sub hl [2, 1, 0] rfl)
  subst ha
  have hl := lv_entry ([.ref (fw_ad E 0 18)]) (n := 3) (Nat.le_of_ble_eq_true rfl)
  rw [lg_entry_eq]
  generalize (lg_sl ([.ref (fw_ad E 0 18)]) ++ List.replicate (3 - (lg_sl ([.ref (fw_ad E 0 18)])).length) Slot.unset).toArray = ls at hl ⊢
  exact EN s.heap [] ls hP va_S.rf hl
set_option maxHeartbeats 4000000 in
set_option maxRecDepth 100000 in
theorem k_X10_temperature (l : Launch) {E : fw_E} {o : Int64} {d : UInt64} (hE : fw_ok E) {μ μ' : fw_M} (x1 : Int32) {r : UInt32} (h : f_X10_temperature μ x1 = some (μ', r)) : Met l yX10_temperature (fw_ws yX10_temperature cX10_temperature 2 (some .float)) ({ frames := 2, cells := 0, slots := 0, locals := 42 } : Room) (va_Pc [.ref (fw_ad E 0 18), .int x1] (fw_Pre E o d μ)) (fw_Q E o d (some (.float r)) μ') 0 0 (fw_A E) := by
  refine Met.ofW (cc := cX10_temperature) (maxL := 2) (ret := (some .float)) (by decide) rfl ?_
  intro p e s m args below meth c s₁ B hml hv
  obtain ⟨ha, hK, hP, hSt⟩ := hv
  have hx := B.exec
  have hb := B.bytes
  have hr := B.returns
  have hts := atoms_spec (ws := fw_ws yX10_temperature cX10_temperature 2 (some .float)) B.pre
  have hU : ∀ w ∈ fw_U, w.before args s = true := fun w hw => hts w (List.mem_cons_of_mem _ hw)
  have hown : s.vm.findClass RX10 = some m.cls := findClass_of_methodNamed B.named
  have hlocks := B.notSynchronized
  have J13 : ∀ (μ : fw_M) (x1 : Int32) (s1 : Int32) (H : Heap) (locs : List Loc) (ls : Array Slot), f_X10_temperature_J13 μ x1 s1 = some (μ', r) → fw_P E o d μ H → va_S (fw_A E) s.heap H locs → lv_has ls 2 [(0, .ref (fw_ad E 0 18)), (1, .int x1)] → W p l e (headSpec (fw_ws yX10_temperature cX10_temperature 2 (some .float)) ({ frames := 2, cells := 0, slots := 0, locals := 42 } : Room)).room s m args below meth c H locs 0 0 (MQ below (fw_Q E o d (some (.float r)) μ') args s 0 0 (fw_A E)) (F0 m 13 ls [.int s1, .ref (fw_ad E 0 18)]) := by
    intro μ x1 s1 H locs ls h hP hS hl
    unfold f_X10_temperature_J13 at h
    refine fw_put (ci := 8) (v := .int s1) (ty := .int) (C := RX10) (T := TX10) (N := 20) hx hb hU inU10 tyX10 tyX10_ok nmX10 hown hK hP hE hS (fw_V0 (f := 18) (by decide) (by decide)) rfl rfl 0 (by decide) (hU (Cond.fieldLink RX10 41 "LaundryServiceModel" "thrown" "I") m_1117) (fun _ h9 => h9) rfl (by decide +kernel) rfl rfl (Nat.le_of_ble_eq_true rfl) 0 s1 (by rw [fw_u_c]; rfl) dX10_temperature_13 (fun H locs hP hS => ?_)
    obtain ⟨μ3, eμ3, h⟩ := fw_l_e h
    rw [← eμ3] at hP
    refine lv_aload_n hx hb dX10_temperature_16 rfl (lv_at hl 0 rfl) ?_
    refine va_get (D := fw_D E) (ci := 8) (v := .int (μ3 0 18 0)) (C := RX10) (T := TX10) (N := 20) hx hb hU inU10 hown hK (fw_at hP (fw_V0 (f := 18) (by decide) (by decide))) 0 rfl rfl 0 (by decide) (hU (Cond.fieldLink RX10 41 "LaundryServiceModel" "thrown" "I") m_1117) (fun _ h9 => h9) rfl dX10_temperature_17 ?_
    refine lv_if_le (tgt := 27) hx hb dX10_temperature_20 (by decide) (fun c4 => ?_) (fun c4 => ?_)
    · rw [if_pos c4] at h
      refine lv_aload_n hx hb dX10_temperature_27 rfl (lv_at hl 0 rfl) ?_
      refine lv_iload_n hx hb dX10_temperature_28 rfl (lv_at hl 1 rfl) ?_
      obtain ⟨r5, hc5, h⟩ := fw_b1_e h
      refine fw_ret (va_runV (As := [.int x1]) (rest := []) ⟨hx, hb, hml, hown, hU⟩ (k_X10_warm l hE x1 hc5) (cwV 1 hU (fw_gV m_1288 m_1290 ms_29 m_9 m_1291) rfl rfl rfl (by decide +kernel) ⟨(Nat.le_of_ble_eq_true rfl), (Nat.le_of_ble_eq_true rfl)⟩) ⟨fw_blind, fw_recv hK hP (fw_V0 (f := 18) (by decide) (by decide)) rfl rfl, fun U hU9 hW9 => ⟨rfl, fw_pre hK hP hSt hS U hU9 hW9⟩⟩ rfl rfl hl.1 rfl (lv_room (Nat.le_of_ble_eq_true rfl)) dX10_temperature_29 ⟨Nat.zero_le _, Nat.zero_le _⟩) hS (fun H locs hP hS => ?_)
      exact W.fret (v := r5) hx hb hr (fw_ew (mk := Value.float) h hP hS) hS.2.2 dX10_temperature_32
    · rw [if_neg c4] at h
      refine lv_fconst0 hx hb dX10_temperature_23 ?_
      refine lv_goto (tgt := 32) hx hb dX10_temperature_24 (by decide) ?_
      exact W.fret (v := FP.fconst0) hx hb hr (fw_ew (mk := Value.float) h hP hS) hS.2.2 dX10_temperature_32
  have EN : ∀ (H : Heap) (locs : List Loc) (ls : Array Slot), fw_P E o d μ H → va_S (fw_A E) s.heap H locs → lv_has ls 2 [(0, .ref (fw_ad E 0 18)), (1, .int x1)] → W p l e (headSpec (fw_ws yX10_temperature cX10_temperature 2 (some .float)) ({ frames := 2, cells := 0, slots := 0, locals := 42 } : Room)).room s m args below meth c H locs 0 0 (MQ below (fw_Q E o d (some (.float r)) μ') args s 0 0 (fw_A E)) (F0 m 0 ls []) := by
    intro H locs ls hP hS hl
    unfold f_X10_temperature at h
    refine lv_aload_n hx hb dX10_temperature_0 rfl (lv_at hl 0 rfl) ?_
    refine lv_iload_n hx hb dX10_temperature_1 rfl (lv_at hl 1 rfl) ?_
    obtain ⟨r1, hc1, h⟩ := fw_b1_e h
    refine fw_ret (va_runS (As := [.int x1]) (rest := [.ref (fw_ad E 0 18)]) ⟨hx, hb, hml, hown, hU⟩ (k_X10_isMachine l hE x1 hc1) (va_cwS 1 hU (fw_gS m_1232 m_1233 m_9 m_1234) rfl rfl rfl (by decide +kernel) ⟨(Nat.le_of_ble_eq_true rfl), (Nat.le_of_ble_eq_true rfl)⟩) ⟨fw_blind, fun U hU9 hW9 => ⟨rfl, fw_pre hK hP hSt hS U hU9 hW9⟩⟩ rfl rfl hl.1 rfl (lv_room (Nat.le_of_ble_eq_true rfl)) dX10_temperature_2 ⟨Nat.zero_le _, Nat.zero_le _⟩) hS (fun H locs hP hS => ?_)
    refine lv_if_eq (tgt := 12) hx hb dX10_temperature_5 (by decide) (fun c2 => ?_) (fun c2 => ?_)
    · rw [if_pos c2] at h
      refine lv_iconst (v := (1 : Int32)) hx hb dX10_temperature_12 (by decide) ?_
      exact J13 μ x1 (1 : Int32) H locs ls h hP hS (lv_sub hl [0, 1] rfl)
    · rw [if_neg c2] at h
      refine lv_iconst (v := (0 : Int32)) hx hb dX10_temperature_8 (by decide) ?_
      refine lv_goto (tgt := 13) hx hb dX10_temperature_9 (by decide) ?_
      exact J13 μ x1 (0 : Int32) H locs ls h hP hS (lv_sub hl [0, 1] rfl)
  subst ha
  have hl := lv_entry ([.ref (fw_ad E 0 18), .int x1]) (n := 2) (Nat.le_of_ble_eq_true rfl)
  rw [lg_entry_eq]
  generalize (lg_sl ([.ref (fw_ad E 0 18), .int x1]) ++ List.replicate (2 - (lg_sl ([.ref (fw_ad E 0 18), .int x1])).length) Slot.unset).toArray = ls at hl ⊢
  exact EN s.heap [] ls hP va_S.rf hl
set_option maxHeartbeats 4000000 in
set_option maxRecDepth 100000 in
theorem k_X10_temperatureBits (l : Launch) {E : fw_E} {o : Int64} {d : UInt64} (hE : fw_ok E) {μ μ' : fw_M} (x1 : Int32) {r : Int32} (h : f_X10_temperatureBits μ x1 = some (μ', r)) : Met l yX10_temperatureBits (fw_ws yX10_temperatureBits cX10_temperatureBits 2 (some .int)) ({ frames := 2, cells := 0, slots := 0, locals := 60 } : Room) (va_Pc [.ref (fw_ad E 0 18), .int x1] (fw_Pre E o d μ)) (fw_Q E o d (some (.int r)) μ') 0 0 (fw_A E) := by
  refine Met.ofW (cc := cX10_temperatureBits) (maxL := 2) (ret := (some .int)) (by decide) rfl ?_
  intro p e s m args below meth c s₁ B hml hv
  obtain ⟨ha, hK, hP, hSt⟩ := hv
  have hx := B.exec
  have hb := B.bytes
  have hr := B.returns
  have hts := atoms_spec (ws := fw_ws yX10_temperatureBits cX10_temperatureBits 2 (some .int)) B.pre
  have hU : ∀ w ∈ fw_U, w.before args s = true := fun w hw => hts w (List.mem_cons_of_mem _ hw)
  have hown : s.vm.findClass RX10 = some m.cls := findClass_of_methodNamed B.named
  have hlocks := B.notSynchronized
  have J13 : ∀ (μ : fw_M) (x1 : Int32) (s1 : Int32) (H : Heap) (locs : List Loc) (ls : Array Slot), f_X10_temperatureBits_J13 μ x1 s1 = some (μ', r) → fw_P E o d μ H → va_S (fw_A E) s.heap H locs → lv_has ls 2 [(0, .ref (fw_ad E 0 18)), (1, .int x1)] → W p l e (headSpec (fw_ws yX10_temperatureBits cX10_temperatureBits 2 (some .int)) ({ frames := 2, cells := 0, slots := 0, locals := 60 } : Room)).room s m args below meth c H locs 0 0 (MQ below (fw_Q E o d (some (.int r)) μ') args s 0 0 (fw_A E)) (F0 m 13 ls [.int s1, .ref (fw_ad E 0 18)]) := by
    intro μ x1 s1 H locs ls h hP hS hl
    unfold f_X10_temperatureBits_J13 at h
    refine fw_put (ci := 8) (v := .int s1) (ty := .int) (C := RX10) (T := TX10) (N := 20) hx hb hU inU10 tyX10 tyX10_ok nmX10 hown hK hP hE hS (fw_V0 (f := 18) (by decide) (by decide)) rfl rfl 0 (by decide) (hU (Cond.fieldLink RX10 41 "LaundryServiceModel" "thrown" "I") m_1117) (fun _ h9 => h9) rfl (by decide +kernel) rfl rfl (Nat.le_of_ble_eq_true rfl) 0 s1 (by rw [fw_u_c]; rfl) dX10_temperatureBits_13 (fun H locs hP hS => ?_)
    obtain ⟨μ3, eμ3, h⟩ := fw_l_e h
    rw [← eμ3] at hP
    refine lv_aload_n hx hb dX10_temperatureBits_16 rfl (lv_at hl 0 rfl) ?_
    refine va_get (D := fw_D E) (ci := 8) (v := .int (μ3 0 18 0)) (C := RX10) (T := TX10) (N := 20) hx hb hU inU10 hown hK (fw_at hP (fw_V0 (f := 18) (by decide) (by decide))) 0 rfl rfl 0 (by decide) (hU (Cond.fieldLink RX10 41 "LaundryServiceModel" "thrown" "I") m_1117) (fun _ h9 => h9) rfl dX10_temperatureBits_17 ?_
    refine lv_if_le (tgt := 27) hx hb dX10_temperatureBits_20 (by decide) (fun c4 => ?_) (fun c4 => ?_)
    · rw [if_pos c4] at h
      refine lv_aload_n hx hb dX10_temperatureBits_27 rfl (lv_at hl 0 rfl) ?_
      refine lv_iload_n hx hb dX10_temperatureBits_28 rfl (lv_at hl 1 rfl) ?_
      obtain ⟨r5, hc5, h⟩ := fw_b1_e h
      refine fw_ret (va_runV (As := [.int x1]) (rest := []) ⟨hx, hb, hml, hown, hU⟩ (k_X10_warm l hE x1 hc5) (cwV 1 hU (fw_gV m_1288 m_1290 ms_29 m_9 m_1291) rfl rfl rfl (by decide +kernel) ⟨(Nat.le_of_ble_eq_true rfl), (Nat.le_of_ble_eq_true rfl)⟩) ⟨fw_blind, fw_recv hK hP (fw_V0 (f := 18) (by decide) (by decide)) rfl rfl, fun U hU9 hW9 => ⟨rfl, fw_pre hK hP hSt hS U hU9 hW9⟩⟩ rfl rfl hl.1 rfl (lv_room (Nat.le_of_ble_eq_true rfl)) dX10_temperatureBits_29 ⟨Nat.zero_le _, Nat.zero_le _⟩) hS (fun H locs hP hS => ?_)
      obtain ⟨r6, hc6, h⟩ := fw_b1_e h
      refine fw_ret (va_runS (As := [.float r5]) (rest := []) ⟨hx, hb, hml, hown, hU⟩ (k_Jxf58ca_floatToIntBits_5c35a l hE r5 hc6) (va_cwS 1 hU (fw_gS m_1293 m_1294 m_24 m_1295) rfl rfl rfl (by decide +kernel) ⟨(Nat.le_of_ble_eq_true rfl), (Nat.le_of_ble_eq_true rfl)⟩) ⟨fw_blind, fun U hU9 hW9 => ⟨rfl, fw_pre hK hP hSt hS U hU9 hW9⟩⟩ rfl rfl hl.1 rfl (lv_room (Nat.le_of_ble_eq_true rfl)) dX10_temperatureBits_32 ⟨Nat.zero_le _, Nat.zero_le _⟩) hS (fun H locs hP hS => ?_)
      exact W.iret (v := r6) hx hb hr (fw_ew (mk := Value.int) h hP hS) hS.2.2 dX10_temperatureBits_35
    · rw [if_neg c4] at h
      refine lv_iconst (v := (0 : Int32)) hx hb dX10_temperatureBits_23 (by decide) ?_
      refine lv_goto (tgt := 35) hx hb dX10_temperatureBits_24 (by decide) ?_
      exact W.iret (v := (0 : Int32)) hx hb hr (fw_ew (mk := Value.int) h hP hS) hS.2.2 dX10_temperatureBits_35
  have EN : ∀ (H : Heap) (locs : List Loc) (ls : Array Slot), fw_P E o d μ H → va_S (fw_A E) s.heap H locs → lv_has ls 2 [(0, .ref (fw_ad E 0 18)), (1, .int x1)] → W p l e (headSpec (fw_ws yX10_temperatureBits cX10_temperatureBits 2 (some .int)) ({ frames := 2, cells := 0, slots := 0, locals := 60 } : Room)).room s m args below meth c H locs 0 0 (MQ below (fw_Q E o d (some (.int r)) μ') args s 0 0 (fw_A E)) (F0 m 0 ls []) := by
    intro H locs ls hP hS hl
    unfold f_X10_temperatureBits at h
    refine lv_aload_n hx hb dX10_temperatureBits_0 rfl (lv_at hl 0 rfl) ?_
    refine lv_iload_n hx hb dX10_temperatureBits_1 rfl (lv_at hl 1 rfl) ?_
    obtain ⟨r1, hc1, h⟩ := fw_b1_e h
    refine fw_ret (va_runS (As := [.int x1]) (rest := [.ref (fw_ad E 0 18)]) ⟨hx, hb, hml, hown, hU⟩ (k_X10_isMachine l hE x1 hc1) (va_cwS 1 hU (fw_gS m_1232 m_1233 m_9 m_1234) rfl rfl rfl (by decide +kernel) ⟨(Nat.le_of_ble_eq_true rfl), (Nat.le_of_ble_eq_true rfl)⟩) ⟨fw_blind, fun U hU9 hW9 => ⟨rfl, fw_pre hK hP hSt hS U hU9 hW9⟩⟩ rfl rfl hl.1 rfl (lv_room (Nat.le_of_ble_eq_true rfl)) dX10_temperatureBits_2 ⟨Nat.zero_le _, Nat.zero_le _⟩) hS (fun H locs hP hS => ?_)
    refine lv_if_eq (tgt := 12) hx hb dX10_temperatureBits_5 (by decide) (fun c2 => ?_) (fun c2 => ?_)
    · rw [if_pos c2] at h
      refine lv_iconst (v := (1 : Int32)) hx hb dX10_temperatureBits_12 (by decide) ?_
      exact J13 μ x1 (1 : Int32) H locs ls h hP hS (lv_sub hl [0, 1] rfl)
    · rw [if_neg c2] at h
      refine lv_iconst (v := (0 : Int32)) hx hb dX10_temperatureBits_8 (by decide) ?_
      refine lv_goto (tgt := 13) hx hb dX10_temperatureBits_9 (by decide) ?_
      exact J13 μ x1 (0 : Int32) H locs ls h hP hS (lv_sub hl [0, 1] rfl)
  subst ha
  have hl := lv_entry ([.ref (fw_ad E 0 18), .int x1]) (n := 2) (Nat.le_of_ble_eq_true rfl)
  rw [lg_entry_eq]
  generalize (lg_sl ([.ref (fw_ad E 0 18), .int x1]) ++ List.replicate (2 - (lg_sl ([.ref (fw_ad E 0 18), .int x1])).length) Slot.unset).toArray = ls at hl ⊢
  exact EN s.heap [] ls hP va_S.rf hl
set_option maxHeartbeats 4000000 in
set_option maxRecDepth 100000 in
theorem k_X10_washableStains (l : Launch) {E : fw_E} {o : Int64} {d : UInt64} (hE : fw_ok E) {μ μ' : fw_M} (x1 : Int32) {r : Int32} (h : f_X10_washableStains μ x1 = some (μ', r)) : Met l yX10_washableStains (fw_ws yX10_washableStains cX10_washableStains 2 (some .int)) ({ frames := 2, cells := 0, slots := 0, locals := 42 } : Room) (va_Pc [.ref (fw_ad E 0 18), .int x1] (fw_Pre E o d μ)) (fw_Q E o d (some (.int r)) μ') 0 0 (fw_A E) := by
  refine Met.ofW (cc := cX10_washableStains) (maxL := 2) (ret := (some .int)) (by decide) rfl ?_
  intro p e s m args below meth c s₁ B hml hv
  obtain ⟨ha, hK, hP, hSt⟩ := hv
  have hx := B.exec
  have hb := B.bytes
  have hr := B.returns
  have hts := atoms_spec (ws := fw_ws yX10_washableStains cX10_washableStains 2 (some .int)) B.pre
  have hU : ∀ w ∈ fw_U, w.before args s = true := fun w hw => hts w (List.mem_cons_of_mem _ hw)
  have hown : s.vm.findClass RX10 = some m.cls := findClass_of_methodNamed B.named
  have hlocks := B.notSynchronized
  have J13 : ∀ (μ : fw_M) (x1 : Int32) (s1 : Int32) (H : Heap) (locs : List Loc) (ls : Array Slot), f_X10_washableStains_J13 μ x1 s1 = some (μ', r) → fw_P E o d μ H → va_S (fw_A E) s.heap H locs → lv_has ls 2 [(0, .ref (fw_ad E 0 18)), (1, .int x1)] → W p l e (headSpec (fw_ws yX10_washableStains cX10_washableStains 2 (some .int)) ({ frames := 2, cells := 0, slots := 0, locals := 42 } : Room)).room s m args below meth c H locs 0 0 (MQ below (fw_Q E o d (some (.int r)) μ') args s 0 0 (fw_A E)) (F0 m 13 ls [.int s1, .ref (fw_ad E 0 18)]) := by
    intro μ x1 s1 H locs ls h hP hS hl
    unfold f_X10_washableStains_J13 at h
    refine fw_put (ci := 8) (v := .int s1) (ty := .int) (C := RX10) (T := TX10) (N := 20) hx hb hU inU10 tyX10 tyX10_ok nmX10 hown hK hP hE hS (fw_V0 (f := 18) (by decide) (by decide)) rfl rfl 0 (by decide) (hU (Cond.fieldLink RX10 41 "LaundryServiceModel" "thrown" "I") m_1117) (fun _ h9 => h9) rfl (by decide +kernel) rfl rfl (Nat.le_of_ble_eq_true rfl) 0 s1 (by rw [fw_u_c]; rfl) dX10_washableStains_13 (fun H locs hP hS => ?_)
    obtain ⟨μ3, eμ3, h⟩ := fw_l_e h
    rw [← eμ3] at hP
    refine lv_aload_n hx hb dX10_washableStains_16 rfl (lv_at hl 0 rfl) ?_
    refine va_get (D := fw_D E) (ci := 8) (v := .int (μ3 0 18 0)) (C := RX10) (T := TX10) (N := 20) hx hb hU inU10 hown hK (fw_at hP (fw_V0 (f := 18) (by decide) (by decide))) 0 rfl rfl 0 (by decide) (hU (Cond.fieldLink RX10 41 "LaundryServiceModel" "thrown" "I") m_1117) (fun _ h9 => h9) rfl dX10_washableStains_17 ?_
    refine lv_if_le (tgt := 27) hx hb dX10_washableStains_20 (by decide) (fun c4 => ?_) (fun c4 => ?_)
    · rw [if_pos c4] at h
      refine lv_aload_n hx hb dX10_washableStains_27 rfl (lv_at hl 0 rfl) ?_
      refine va_get (D := fw_D E) (ci := 8) (v := .ref (fw_ad E 0 19)) (C := RX10) (T := TX10) (N := 20) hx hb hU inU10 hown hK (fw_at hP (fw_V0 (f := 18) (by decide) (by decide))) 0 rfl rfl 1 (by decide) (hU (Cond.fieldLink RX10 7 "LaundryServiceModel" "s" "[I") m_1118) (fun _ h9 => h9) rfl dX10_washableStains_28 ?_
      refine lv_iconst (v := (2 : Int32)) hx hb dX10_washableStains_31 (by decide) ?_
      refine lv_iload_n hx hb dX10_washableStains_32 rfl (lv_at hl 1 rfl) ?_
      refine lv_iadd hx hb dX10_washableStains_33 ?_
      obtain ⟨g5, h⟩ := fw_g_e h
      refine va_iald (D := fw_D E) hx hb hK (fw_at hP (fw_V0 (f := 19) (by decide) (by decide))) 0 0 rfl rfl (fw_in_e g5) dX10_washableStains_34 ?_
      obtain ⟨r6, hc6, h⟩ := fw_b1_e h
      refine fw_ret (va_runS (As := [.int (μ3 0 19 ((2 : Int32) + x1).toNatClampNeg)]) (rest := []) ⟨hx, hb, hml, hown, hU⟩ (k_X10_washable l hE (μ3 0 19 ((2 : Int32) + x1).toNatClampNeg) hc6) (va_cwS 1 hU (fw_gS m_1315 m_1316 m_9 m_1317) rfl rfl rfl (by decide +kernel) ⟨(Nat.le_of_ble_eq_true rfl), (Nat.le_of_ble_eq_true rfl)⟩) ⟨fw_blind, fun U hU9 hW9 => ⟨rfl, fw_pre hK hP hSt hS U hU9 hW9⟩⟩ rfl rfl hl.1 rfl (lv_room (Nat.le_of_ble_eq_true rfl)) dX10_washableStains_35 ⟨Nat.zero_le _, Nat.zero_le _⟩) hS (fun H locs hP hS => ?_)
      exact W.iret (v := r6) hx hb hr (fw_ew (mk := Value.int) h hP hS) hS.2.2 dX10_washableStains_38
    · rw [if_neg c4] at h
      refine lv_iconst (v := (0 : Int32)) hx hb dX10_washableStains_23 (by decide) ?_
      refine lv_goto (tgt := 38) hx hb dX10_washableStains_24 (by decide) ?_
      exact W.iret (v := (0 : Int32)) hx hb hr (fw_ew (mk := Value.int) h hP hS) hS.2.2 dX10_washableStains_38
  have EN : ∀ (H : Heap) (locs : List Loc) (ls : Array Slot), fw_P E o d μ H → va_S (fw_A E) s.heap H locs → lv_has ls 2 [(0, .ref (fw_ad E 0 18)), (1, .int x1)] → W p l e (headSpec (fw_ws yX10_washableStains cX10_washableStains 2 (some .int)) ({ frames := 2, cells := 0, slots := 0, locals := 42 } : Room)).room s m args below meth c H locs 0 0 (MQ below (fw_Q E o d (some (.int r)) μ') args s 0 0 (fw_A E)) (F0 m 0 ls []) := by
    intro H locs ls hP hS hl
    unfold f_X10_washableStains at h
    refine lv_aload_n hx hb dX10_washableStains_0 rfl (lv_at hl 0 rfl) ?_
    refine lv_iload_n hx hb dX10_washableStains_1 rfl (lv_at hl 1 rfl) ?_
    obtain ⟨r1, hc1, h⟩ := fw_b1_e h
    refine fw_ret (va_runS (As := [.int x1]) (rest := [.ref (fw_ad E 0 18)]) ⟨hx, hb, hml, hown, hU⟩ (k_X10_isMachine l hE x1 hc1) (va_cwS 1 hU (fw_gS m_1232 m_1233 m_9 m_1234) rfl rfl rfl (by decide +kernel) ⟨(Nat.le_of_ble_eq_true rfl), (Nat.le_of_ble_eq_true rfl)⟩) ⟨fw_blind, fun U hU9 hW9 => ⟨rfl, fw_pre hK hP hSt hS U hU9 hW9⟩⟩ rfl rfl hl.1 rfl (lv_room (Nat.le_of_ble_eq_true rfl)) dX10_washableStains_2 ⟨Nat.zero_le _, Nat.zero_le _⟩) hS (fun H locs hP hS => ?_)
    refine lv_if_eq (tgt := 12) hx hb dX10_washableStains_5 (by decide) (fun c2 => ?_) (fun c2 => ?_)
    · rw [if_pos c2] at h
      refine lv_iconst (v := (1 : Int32)) hx hb dX10_washableStains_12 (by decide) ?_
      exact J13 μ x1 (1 : Int32) H locs ls h hP hS (lv_sub hl [0, 1] rfl)
    · rw [if_neg c2] at h
      refine lv_iconst (v := (0 : Int32)) hx hb dX10_washableStains_8 (by decide) ?_
      refine lv_goto (tgt := 13) hx hb dX10_washableStains_9 (by decide) ?_
      exact J13 μ x1 (0 : Int32) H locs ls h hP hS (lv_sub hl [0, 1] rfl)
  subst ha
  have hl := lv_entry ([.ref (fw_ad E 0 18), .int x1]) (n := 2) (Nat.le_of_ble_eq_true rfl)
  rw [lg_entry_eq]
  generalize (lg_sl ([.ref (fw_ad E 0 18), .int x1]) ++ List.replicate (2 - (lg_sl ([.ref (fw_ad E 0 18), .int x1])).length) Slot.unset).toArray = ls at hl ⊢
  exact EN s.heap [] ls hP va_S.rf hl
set_option maxHeartbeats 4000000 in
set_option maxRecDepth 100000 in
theorem k_X10_commonStains (l : Launch) {E : fw_E} {o : Int64} {d : UInt64} (hE : fw_ok E) {μ μ' : fw_M} (x1 : Int32) {r : Int32} (h : f_X10_commonStains μ x1 = some (μ', r)) : Met l yX10_commonStains (fw_ws yX10_commonStains cX10_commonStains 4 (some .int)) ({ frames := 2, cells := 0, slots := 0, locals := 44 } : Room) (va_Pc [.ref (fw_ad E 0 18), .int x1] (fw_Pre E o d μ)) (fw_Q E o d (some (.int r)) μ') 0 0 (fw_A E) := by
  refine Met.ofW (cc := cX10_commonStains) (maxL := 4) (ret := (some .int)) (by decide) rfl ?_
  intro p e s m args below meth c s₁ B hml hv
  obtain ⟨ha, hK, hP, hSt⟩ := hv
  have hx := B.exec
  have hb := B.bytes
  have hr := B.returns
  have hts := atoms_spec (ws := fw_ws yX10_commonStains cX10_commonStains 4 (some .int)) B.pre
  have hU : ∀ w ∈ fw_U, w.before args s = true := fun w hw => hts w (List.mem_cons_of_mem _ hw)
  have hown : s.vm.findClass RX10 = some m.cls := findClass_of_methodNamed B.named
  have hlocks := B.notSynchronized
  have L31 : ∀ (n : Nat) (μ : fw_M) (x1 : Int32) (x2 : Int32) (x3 : Int32) (H : Heap) (locs : List Loc) (ls : Array Slot), f_X10_commonStains_L31 n μ x1 x2 x3 = some (μ', r) → fw_P E o d μ H → va_S (fw_A E) s.heap H locs → lv_has ls 4 [(0, .ref (fw_ad E 0 18)), (1, .int x1), (2, .int x2), (3, .int x3)] → W p l e (headSpec (fw_ws yX10_commonStains cX10_commonStains 4 (some .int)) ({ frames := 2, cells := 0, slots := 0, locals := 44 } : Room)).room s m args below meth c H locs 0 0 (MQ below (fw_Q E o d (some (.int r)) μ') args s 0 0 (fw_A E)) (F0 m 31 ls []) := by
    intro n31
    induction n31 with
    | zero => intro μ x1 x2 x3 H locs ls h; rw [f_X10_commonStains_L31] at h; cases h
    | succ n31 ih31 =>
      intro μ x1 x2 x3 H locs ls h hP hS hl
      rw [f_X10_commonStains_L31] at h
      refine lv_iload_n hx hb dX10_commonStains_31 rfl (lv_at hl 3 rfl) ?_
      refine lv_aload_n hx hb dX10_commonStains_32 rfl (lv_at hl 0 rfl) ?_
      refine va_get (D := fw_D E) (ci := 8) (v := .ref (fw_ad E 0 19)) (C := RX10) (T := TX10) (N := 20) hx hb hU inU10 hown hK (fw_at hP (fw_V0 (f := 18) (by decide) (by decide))) 0 rfl rfl 1 (by decide) (hU (Cond.fieldLink RX10 7 "LaundryServiceModel" "s" "[I") m_1118) (fun _ h9 => h9) rfl dX10_commonStains_33 ?_
      refine lv_iconst (v := (0 : Int32)) hx hb dX10_commonStains_36 (by decide) ?_
      refine va_iald (D := fw_D E) hx hb hK (fw_at hP (fw_V0 (f := 19) (by decide) (by decide))) 0 0 rfl rfl (fw_in_e (n := 104) (by decide)) dX10_commonStains_37 ?_
      refine lv_icmp_ge (tgt := 71) hx hb dX10_commonStains_38 (by decide) (fun c5 => ?_) (fun c5 => ?_)
      · rw [if_pos c5] at h
        refine lv_iload_n hx hb dX10_commonStains_71 rfl (lv_at hl 2 rfl) ?_
        exact W.iret (v := x2) hx hb hr (fw_ew (mk := Value.int) h hP hS) hS.2.2 dX10_commonStains_72
      · rw [if_neg c5] at h
        refine lv_iload_n hx hb dX10_commonStains_41 rfl (lv_at hl 2 rfl) ?_
        refine lv_aload_n hx hb dX10_commonStains_42 rfl (lv_at hl 0 rfl) ?_
        refine lv_iload_n hx hb dX10_commonStains_43 rfl (lv_at hl 3 rfl) ?_
        refine lv_iload_n hx hb dX10_commonStains_44 rfl (lv_at hl 1 rfl) ?_
        obtain ⟨r6, hc6, h⟩ := fw_b1_e h
        refine fw_ret (va_runV (As := [.int x3, .int x1]) (rest := [.int x2]) ⟨hx, hb, hml, hown, hU⟩ (k_X10_isInside l hE x3 x1 hc6) (cwV 2 hU (fw_gV m_1243 m_1245 ms_22 m_9 m_1246) rfl rfl rfl (by decide +kernel) ⟨(Nat.le_of_ble_eq_true rfl), (Nat.le_of_ble_eq_true rfl)⟩) ⟨fw_blind, fw_recv hK hP (fw_V0 (f := 18) (by decide) (by decide)) rfl rfl, fun U hU9 hW9 => ⟨rfl, fw_pre hK hP hSt hS U hU9 hW9⟩⟩ rfl rfl hl.1 rfl (lv_room (Nat.le_of_ble_eq_true rfl)) dX10_commonStains_45 ⟨Nat.zero_le _, Nat.zero_le _⟩) hS (fun H locs hP hS => ?_)
        refine lv_if_eq (tgt := 60) hx hb dX10_commonStains_48 (by decide) (fun c7 => ?_) (fun c7 => ?_)
        · rw [if_pos c7] at h
          refine lv_sipush (v := (255 : Int32)) hx hb dX10_commonStains_60 (by decide) ?_
          refine lv_iand hx hb dX10_commonStains_63 ?_
          refine lv_istore_n (lv' := [(2, .int (x2 &&& (255 : Int32))), (0, .ref (fw_ad E 0 18)), (1, .int x1), (3, .int x3)]) hx hb dX10_commonStains_64 rfl hl (by decide) rfl (fun ls hl => ?_)
          refine lv_iinc (v := (x3 + (1 : Int32))) (lv' := [(3, .int (x3 + (1 : Int32))), (2, .int (x2 &&& (255 : Int32))), (0, .ref (fw_ad E 0 18)), (1, .int x1)]) hx hb dX10_commonStains_65 hl (k := 3) rfl rfl (by decide) rfl (fun ls hl => ?_)
          refine lv_goto (tgt := 31) hx hb dX10_commonStains_68 (by decide) ?_
          exact ih31 μ x1 (x2 &&& (255 : Int32)) (x3 + (1 : Int32)) H locs ls h hP hS (lv_sub hl [2, 3, 1, 0] rfl)
        · rw [if_neg c7] at h
          refine lv_aload_n hx hb dX10_commonStains_51 rfl (lv_at hl 0 rfl) ?_
          refine lv_iload_n hx hb dX10_commonStains_52 rfl (lv_at hl 3 rfl) ?_
          refine lv_iconst (v := (3 : Int32)) hx hb dX10_commonStains_53 (by decide) ?_
          obtain ⟨r8, hc8, h⟩ := fw_b1_e h
          refine fw_ret (va_runV (As := [.int x3, .int (3 : Int32)]) (rest := [.int x2]) ⟨hx, hb, hml, hown, hU⟩ (k_X10_of l hE x3 (3 : Int32) hc8) (cwV 2 hU (fw_gV m_1235 m_1237 ms_20 m_9 m_1238) rfl rfl rfl (by decide +kernel) ⟨(Nat.le_of_ble_eq_true rfl), (Nat.le_of_ble_eq_true rfl)⟩) ⟨fw_blind, fw_recv hK hP (fw_V0 (f := 18) (by decide) (by decide)) rfl rfl, fun U hU9 hW9 => ⟨rfl, fw_pre hK hP hSt hS U hU9 hW9⟩⟩ rfl rfl hl.1 rfl (lv_room (Nat.le_of_ble_eq_true rfl)) dX10_commonStains_54 ⟨Nat.zero_le _, Nat.zero_le _⟩) hS (fun H locs hP hS => ?_)
          refine lv_goto (tgt := 63) hx hb dX10_commonStains_57 (by decide) ?_
          refine lv_iand hx hb dX10_commonStains_63 ?_
          refine lv_istore_n (lv' := [(2, .int (x2 &&& r8)), (0, .ref (fw_ad E 0 18)), (1, .int x1), (3, .int x3)]) hx hb dX10_commonStains_64 rfl hl (by decide) rfl (fun ls hl => ?_)
          refine lv_iinc (v := (x3 + (1 : Int32))) (lv' := [(3, .int (x3 + (1 : Int32))), (2, .int (x2 &&& r8)), (0, .ref (fw_ad E 0 18)), (1, .int x1)]) hx hb dX10_commonStains_65 hl (k := 3) rfl rfl (by decide) rfl (fun ls hl => ?_)
          refine lv_goto (tgt := 31) hx hb dX10_commonStains_68 (by decide) ?_
          exact ih31 μ x1 (x2 &&& r8) (x3 + (1 : Int32)) H locs ls h hP hS (lv_sub hl [2, 3, 1, 0] rfl)
  have J13 : ∀ (μ : fw_M) (x1 : Int32) (s1 : Int32) (H : Heap) (locs : List Loc) (ls : Array Slot), f_X10_commonStains_J13 μ x1 s1 = some (μ', r) → fw_P E o d μ H → va_S (fw_A E) s.heap H locs → lv_has ls 4 [(0, .ref (fw_ad E 0 18)), (1, .int x1)] → W p l e (headSpec (fw_ws yX10_commonStains cX10_commonStains 4 (some .int)) ({ frames := 2, cells := 0, slots := 0, locals := 44 } : Room)).room s m args below meth c H locs 0 0 (MQ below (fw_Q E o d (some (.int r)) μ') args s 0 0 (fw_A E)) (F0 m 13 ls [.int s1, .ref (fw_ad E 0 18)]) := by
    intro μ x1 s1 H locs ls h hP hS hl
    unfold f_X10_commonStains_J13 at h
    refine fw_put (ci := 8) (v := .int s1) (ty := .int) (C := RX10) (T := TX10) (N := 20) hx hb hU inU10 tyX10 tyX10_ok nmX10 hown hK hP hE hS (fw_V0 (f := 18) (by decide) (by decide)) rfl rfl 0 (by decide) (hU (Cond.fieldLink RX10 41 "LaundryServiceModel" "thrown" "I") m_1117) (fun _ h9 => h9) rfl (by decide +kernel) rfl rfl (Nat.le_of_ble_eq_true rfl) 0 s1 (by rw [fw_u_c]; rfl) dX10_commonStains_13 (fun H locs hP hS => ?_)
    obtain ⟨μ3, eμ3, h⟩ := fw_l_e h
    rw [← eμ3] at hP
    refine lv_aload_n hx hb dX10_commonStains_16 rfl (lv_at hl 0 rfl) ?_
    refine va_get (D := fw_D E) (ci := 8) (v := .int (μ3 0 18 0)) (C := RX10) (T := TX10) (N := 20) hx hb hU inU10 hown hK (fw_at hP (fw_V0 (f := 18) (by decide) (by decide))) 0 rfl rfl 0 (by decide) (hU (Cond.fieldLink RX10 41 "LaundryServiceModel" "thrown" "I") m_1117) (fun _ h9 => h9) rfl dX10_commonStains_17 ?_
    refine lv_if_le (tgt := 25) hx hb dX10_commonStains_20 (by decide) (fun c4 => ?_) (fun c4 => ?_)
    · rw [if_pos c4] at h
      refine lv_sipush (v := (255 : Int32)) hx hb dX10_commonStains_25 (by decide) ?_
      refine lv_istore_n (lv' := [(2, .int (255 : Int32)), (0, .ref (fw_ad E 0 18)), (1, .int x1)]) hx hb dX10_commonStains_28 rfl hl (by decide) rfl (fun ls hl => ?_)
      refine lv_iconst (v := (0 : Int32)) hx hb dX10_commonStains_29 (by decide) ?_
      refine lv_istore_n (lv' := [(3, .int (0 : Int32)), (2, .int (255 : Int32)), (0, .ref (fw_ad E 0 18)), (1, .int x1)]) hx hb dX10_commonStains_30 rfl hl (by decide) rfl (fun ls hl => ?_)
      exact L31 1000 μ3 x1 (255 : Int32) (0 : Int32) H locs ls h hP hS (lv_sub hl [2, 3, 1, 0] rfl)
    · rw [if_neg c4] at h
      refine lv_iconst (v := (0 : Int32)) hx hb dX10_commonStains_23 (by decide) ?_
      exact W.iret (v := (0 : Int32)) hx hb hr (fw_ew (mk := Value.int) h hP hS) hS.2.2 dX10_commonStains_24
  have EN : ∀ (H : Heap) (locs : List Loc) (ls : Array Slot), fw_P E o d μ H → va_S (fw_A E) s.heap H locs → lv_has ls 4 [(0, .ref (fw_ad E 0 18)), (1, .int x1)] → W p l e (headSpec (fw_ws yX10_commonStains cX10_commonStains 4 (some .int)) ({ frames := 2, cells := 0, slots := 0, locals := 44 } : Room)).room s m args below meth c H locs 0 0 (MQ below (fw_Q E o d (some (.int r)) μ') args s 0 0 (fw_A E)) (F0 m 0 ls []) := by
    intro H locs ls hP hS hl
    unfold f_X10_commonStains at h
    refine lv_aload_n hx hb dX10_commonStains_0 rfl (lv_at hl 0 rfl) ?_
    refine lv_iload_n hx hb dX10_commonStains_1 rfl (lv_at hl 1 rfl) ?_
    obtain ⟨r1, hc1, h⟩ := fw_b1_e h
    refine fw_ret (va_runS (As := [.int x1]) (rest := [.ref (fw_ad E 0 18)]) ⟨hx, hb, hml, hown, hU⟩ (k_X10_isMachine l hE x1 hc1) (va_cwS 1 hU (fw_gS m_1232 m_1233 m_9 m_1234) rfl rfl rfl (by decide +kernel) ⟨(Nat.le_of_ble_eq_true rfl), (Nat.le_of_ble_eq_true rfl)⟩) ⟨fw_blind, fun U hU9 hW9 => ⟨rfl, fw_pre hK hP hSt hS U hU9 hW9⟩⟩ rfl rfl hl.1 rfl (lv_room (Nat.le_of_ble_eq_true rfl)) dX10_commonStains_2 ⟨Nat.zero_le _, Nat.zero_le _⟩) hS (fun H locs hP hS => ?_)
    refine lv_if_eq (tgt := 12) hx hb dX10_commonStains_5 (by decide) (fun c2 => ?_) (fun c2 => ?_)
    · rw [if_pos c2] at h
      refine lv_iconst (v := (1 : Int32)) hx hb dX10_commonStains_12 (by decide) ?_
      exact J13 μ x1 (1 : Int32) H locs ls h hP hS (lv_sub hl [0, 1] rfl)
    · rw [if_neg c2] at h
      refine lv_iconst (v := (0 : Int32)) hx hb dX10_commonStains_8 (by decide) ?_
      refine lv_goto (tgt := 13) hx hb dX10_commonStains_9 (by decide) ?_
      exact J13 μ x1 (0 : Int32) H locs ls h hP hS (lv_sub hl [0, 1] rfl)
  subst ha
  have hl := lv_entry ([.ref (fw_ad E 0 18), .int x1]) (n := 4) (Nat.le_of_ble_eq_true rfl)
  rw [lg_entry_eq]
  generalize (lg_sl ([.ref (fw_ad E 0 18), .int x1]) ++ List.replicate (4 - (lg_sl ([.ref (fw_ad E 0 18), .int x1])).length) Slot.unset).toArray = ls at hl ⊢
  exact EN s.heap [] ls hP va_S.rf hl
set_option maxHeartbeats 4000000 in
set_option maxRecDepth 100000 in
theorem k_X10_coloursIn (l : Launch) {E : fw_E} {o : Int64} {d : UInt64} (hE : fw_ok E) {μ μ' : fw_M} (x1 : Int32) {r : Int32} (h : f_X10_coloursIn μ x1 = some (μ', r)) : Met l yX10_coloursIn (fw_ws yX10_coloursIn cX10_coloursIn 4 (some .int)) ({ frames := 2, cells := 0, slots := 0, locals := 44 } : Room) (va_Pc [.ref (fw_ad E 0 18), .int x1] (fw_Pre E o d μ)) (fw_Q E o d (some (.int r)) μ') 0 0 (fw_A E) := by
  refine Met.ofW (cc := cX10_coloursIn) (maxL := 4) (ret := (some .int)) (by decide) rfl ?_
  intro p e s m args below meth c s₁ B hml hv
  obtain ⟨ha, hK, hP, hSt⟩ := hv
  have hx := B.exec
  have hb := B.bytes
  have hr := B.returns
  have hts := atoms_spec (ws := fw_ws yX10_coloursIn cX10_coloursIn 4 (some .int)) B.pre
  have hU : ∀ w ∈ fw_U, w.before args s = true := fun w hw => hts w (List.mem_cons_of_mem _ hw)
  have hown : s.vm.findClass RX10 = some m.cls := findClass_of_methodNamed B.named
  have hlocks := B.notSynchronized
  have L29 : ∀ (n : Nat) (μ : fw_M) (x1 : Int32) (x2 : Int32) (x3 : Int32) (H : Heap) (locs : List Loc) (ls : Array Slot), f_X10_coloursIn_L29 n μ x1 x2 x3 = some (μ', r) → fw_P E o d μ H → va_S (fw_A E) s.heap H locs → lv_has ls 4 [(0, .ref (fw_ad E 0 18)), (1, .int x1), (2, .int x2), (3, .int x3)] → W p l e (headSpec (fw_ws yX10_coloursIn cX10_coloursIn 4 (some .int)) ({ frames := 2, cells := 0, slots := 0, locals := 44 } : Room)).room s m args below meth c H locs 0 0 (MQ below (fw_Q E o d (some (.int r)) μ') args s 0 0 (fw_A E)) (F0 m 29 ls []) := by
    intro n29
    induction n29 with
    | zero => intro μ x1 x2 x3 H locs ls h; rw [f_X10_coloursIn_L29] at h; cases h
    | succ n29 ih29 =>
      intro μ x1 x2 x3 H locs ls h hP hS hl
      rw [f_X10_coloursIn_L29] at h
      refine lv_iload_n hx hb dX10_coloursIn_29 rfl (lv_at hl 3 rfl) ?_
      refine lv_aload_n hx hb dX10_coloursIn_30 rfl (lv_at hl 0 rfl) ?_
      refine va_get (D := fw_D E) (ci := 8) (v := .ref (fw_ad E 0 19)) (C := RX10) (T := TX10) (N := 20) hx hb hU inU10 hown hK (fw_at hP (fw_V0 (f := 18) (by decide) (by decide))) 0 rfl rfl 1 (by decide) (hU (Cond.fieldLink RX10 7 "LaundryServiceModel" "s" "[I") m_1118) (fun _ h9 => h9) rfl dX10_coloursIn_31 ?_
      refine lv_iconst (v := (0 : Int32)) hx hb dX10_coloursIn_34 (by decide) ?_
      refine va_iald (D := fw_D E) hx hb hK (fw_at hP (fw_V0 (f := 19) (by decide) (by decide))) 0 0 rfl rfl (fw_in_e (n := 104) (by decide)) dX10_coloursIn_35 ?_
      refine lv_icmp_ge (tgt := 69) hx hb dX10_coloursIn_36 (by decide) (fun c5 => ?_) (fun c5 => ?_)
      · rw [if_pos c5] at h
        refine lv_iload_n hx hb dX10_coloursIn_69 rfl (lv_at hl 2 rfl) ?_
        exact W.iret (v := x2) hx hb hr (fw_ew (mk := Value.int) h hP hS) hS.2.2 dX10_coloursIn_70
      · rw [if_neg c5] at h
        refine lv_iload_n hx hb dX10_coloursIn_39 rfl (lv_at hl 2 rfl) ?_
        refine lv_aload_n hx hb dX10_coloursIn_40 rfl (lv_at hl 0 rfl) ?_
        refine lv_iload_n hx hb dX10_coloursIn_41 rfl (lv_at hl 3 rfl) ?_
        refine lv_iload_n hx hb dX10_coloursIn_42 rfl (lv_at hl 1 rfl) ?_
        obtain ⟨r6, hc6, h⟩ := fw_b1_e h
        refine fw_ret (va_runV (As := [.int x3, .int x1]) (rest := [.int x2]) ⟨hx, hb, hml, hown, hU⟩ (k_X10_isInside l hE x3 x1 hc6) (cwV 2 hU (fw_gV m_1243 m_1245 ms_22 m_9 m_1246) rfl rfl rfl (by decide +kernel) ⟨(Nat.le_of_ble_eq_true rfl), (Nat.le_of_ble_eq_true rfl)⟩) ⟨fw_blind, fw_recv hK hP (fw_V0 (f := 18) (by decide) (by decide)) rfl rfl, fun U hU9 hW9 => ⟨rfl, fw_pre hK hP hSt hS U hU9 hW9⟩⟩ rfl rfl hl.1 rfl (lv_room (Nat.le_of_ble_eq_true rfl)) dX10_coloursIn_43 ⟨Nat.zero_le _, Nat.zero_le _⟩) hS (fun H locs hP hS => ?_)
        refine lv_if_eq (tgt := 60) hx hb dX10_coloursIn_46 (by decide) (fun c7 => ?_) (fun c7 => ?_)
        · rw [if_pos c7] at h
          refine lv_iconst (v := (0 : Int32)) hx hb dX10_coloursIn_60 (by decide) ?_
          refine lv_ior hx hb dX10_coloursIn_61 ?_
          refine lv_istore_n (lv' := [(2, .int (x2 ||| (0 : Int32))), (0, .ref (fw_ad E 0 18)), (1, .int x1), (3, .int x3)]) hx hb dX10_coloursIn_62 rfl hl (by decide) rfl (fun ls hl => ?_)
          refine lv_iinc (v := (x3 + (1 : Int32))) (lv' := [(3, .int (x3 + (1 : Int32))), (2, .int (x2 ||| (0 : Int32))), (0, .ref (fw_ad E 0 18)), (1, .int x1)]) hx hb dX10_coloursIn_63 hl (k := 3) rfl rfl (by decide) rfl (fun ls hl => ?_)
          refine lv_goto (tgt := 29) hx hb dX10_coloursIn_66 (by decide) ?_
          exact ih29 μ x1 (x2 ||| (0 : Int32)) (x3 + (1 : Int32)) H locs ls h hP hS (lv_sub hl [2, 3, 1, 0] rfl)
        · rw [if_neg c7] at h
          refine lv_iconst (v := (1 : Int32)) hx hb dX10_coloursIn_49 (by decide) ?_
          refine lv_aload_n hx hb dX10_coloursIn_50 rfl (lv_at hl 0 rfl) ?_
          refine lv_iload_n hx hb dX10_coloursIn_51 rfl (lv_at hl 3 rfl) ?_
          refine lv_iconst (v := (2 : Int32)) hx hb dX10_coloursIn_52 (by decide) ?_
          obtain ⟨r8, hc8, h⟩ := fw_b1_e h
          refine fw_ret (va_runV (As := [.int x3, .int (2 : Int32)]) (rest := [.int (1 : Int32), .int x2]) ⟨hx, hb, hml, hown, hU⟩ (k_X10_of l hE x3 (2 : Int32) hc8) (cwV 2 hU (fw_gV m_1235 m_1237 ms_20 m_9 m_1238) rfl rfl rfl (by decide +kernel) ⟨(Nat.le_of_ble_eq_true rfl), (Nat.le_of_ble_eq_true rfl)⟩) ⟨fw_blind, fw_recv hK hP (fw_V0 (f := 18) (by decide) (by decide)) rfl rfl, fun U hU9 hW9 => ⟨rfl, fw_pre hK hP hSt hS U hU9 hW9⟩⟩ rfl rfl hl.1 rfl (lv_room (Nat.le_of_ble_eq_true rfl)) dX10_coloursIn_53 ⟨Nat.zero_le _, Nat.zero_le _⟩) hS (fun H locs hP hS => ?_)
          refine lv_ishl hx hb dX10_coloursIn_56 ?_
          refine lv_goto (tgt := 61) hx hb dX10_coloursIn_57 (by decide) ?_
          refine lv_ior hx hb dX10_coloursIn_61 ?_
          refine lv_istore_n (lv' := [(2, .int (x2 ||| ((1 : Int32) <<< (r8 &&& (31 : Int32))))), (0, .ref (fw_ad E 0 18)), (1, .int x1), (3, .int x3)]) hx hb dX10_coloursIn_62 rfl hl (by decide) rfl (fun ls hl => ?_)
          refine lv_iinc (v := (x3 + (1 : Int32))) (lv' := [(3, .int (x3 + (1 : Int32))), (2, .int (x2 ||| ((1 : Int32) <<< (r8 &&& (31 : Int32))))), (0, .ref (fw_ad E 0 18)), (1, .int x1)]) hx hb dX10_coloursIn_63 hl (k := 3) rfl rfl (by decide) rfl (fun ls hl => ?_)
          refine lv_goto (tgt := 29) hx hb dX10_coloursIn_66 (by decide) ?_
          exact ih29 μ x1 (x2 ||| ((1 : Int32) <<< (r8 &&& (31 : Int32)))) (x3 + (1 : Int32)) H locs ls h hP hS (lv_sub hl [2, 3, 1, 0] rfl)
  have J13 : ∀ (μ : fw_M) (x1 : Int32) (s1 : Int32) (H : Heap) (locs : List Loc) (ls : Array Slot), f_X10_coloursIn_J13 μ x1 s1 = some (μ', r) → fw_P E o d μ H → va_S (fw_A E) s.heap H locs → lv_has ls 4 [(0, .ref (fw_ad E 0 18)), (1, .int x1)] → W p l e (headSpec (fw_ws yX10_coloursIn cX10_coloursIn 4 (some .int)) ({ frames := 2, cells := 0, slots := 0, locals := 44 } : Room)).room s m args below meth c H locs 0 0 (MQ below (fw_Q E o d (some (.int r)) μ') args s 0 0 (fw_A E)) (F0 m 13 ls [.int s1, .ref (fw_ad E 0 18)]) := by
    intro μ x1 s1 H locs ls h hP hS hl
    unfold f_X10_coloursIn_J13 at h
    refine fw_put (ci := 8) (v := .int s1) (ty := .int) (C := RX10) (T := TX10) (N := 20) hx hb hU inU10 tyX10 tyX10_ok nmX10 hown hK hP hE hS (fw_V0 (f := 18) (by decide) (by decide)) rfl rfl 0 (by decide) (hU (Cond.fieldLink RX10 41 "LaundryServiceModel" "thrown" "I") m_1117) (fun _ h9 => h9) rfl (by decide +kernel) rfl rfl (Nat.le_of_ble_eq_true rfl) 0 s1 (by rw [fw_u_c]; rfl) dX10_coloursIn_13 (fun H locs hP hS => ?_)
    obtain ⟨μ3, eμ3, h⟩ := fw_l_e h
    rw [← eμ3] at hP
    refine lv_aload_n hx hb dX10_coloursIn_16 rfl (lv_at hl 0 rfl) ?_
    refine va_get (D := fw_D E) (ci := 8) (v := .int (μ3 0 18 0)) (C := RX10) (T := TX10) (N := 20) hx hb hU inU10 hown hK (fw_at hP (fw_V0 (f := 18) (by decide) (by decide))) 0 rfl rfl 0 (by decide) (hU (Cond.fieldLink RX10 41 "LaundryServiceModel" "thrown" "I") m_1117) (fun _ h9 => h9) rfl dX10_coloursIn_17 ?_
    refine lv_if_le (tgt := 25) hx hb dX10_coloursIn_20 (by decide) (fun c4 => ?_) (fun c4 => ?_)
    · rw [if_pos c4] at h
      refine lv_iconst (v := (0 : Int32)) hx hb dX10_coloursIn_25 (by decide) ?_
      refine lv_istore_n (lv' := [(2, .int (0 : Int32)), (0, .ref (fw_ad E 0 18)), (1, .int x1)]) hx hb dX10_coloursIn_26 rfl hl (by decide) rfl (fun ls hl => ?_)
      refine lv_iconst (v := (0 : Int32)) hx hb dX10_coloursIn_27 (by decide) ?_
      refine lv_istore_n (lv' := [(3, .int (0 : Int32)), (2, .int (0 : Int32)), (0, .ref (fw_ad E 0 18)), (1, .int x1)]) hx hb dX10_coloursIn_28 rfl hl (by decide) rfl (fun ls hl => ?_)
      exact L29 1000 μ3 x1 (0 : Int32) (0 : Int32) H locs ls h hP hS (lv_sub hl [2, 3, 1, 0] rfl)
    · rw [if_neg c4] at h
      refine lv_iconst (v := (0 : Int32)) hx hb dX10_coloursIn_23 (by decide) ?_
      exact W.iret (v := (0 : Int32)) hx hb hr (fw_ew (mk := Value.int) h hP hS) hS.2.2 dX10_coloursIn_24
  have EN : ∀ (H : Heap) (locs : List Loc) (ls : Array Slot), fw_P E o d μ H → va_S (fw_A E) s.heap H locs → lv_has ls 4 [(0, .ref (fw_ad E 0 18)), (1, .int x1)] → W p l e (headSpec (fw_ws yX10_coloursIn cX10_coloursIn 4 (some .int)) ({ frames := 2, cells := 0, slots := 0, locals := 44 } : Room)).room s m args below meth c H locs 0 0 (MQ below (fw_Q E o d (some (.int r)) μ') args s 0 0 (fw_A E)) (F0 m 0 ls []) := by
    intro H locs ls hP hS hl
    unfold f_X10_coloursIn at h
    refine lv_aload_n hx hb dX10_coloursIn_0 rfl (lv_at hl 0 rfl) ?_
    refine lv_iload_n hx hb dX10_coloursIn_1 rfl (lv_at hl 1 rfl) ?_
    obtain ⟨r1, hc1, h⟩ := fw_b1_e h
    refine fw_ret (va_runS (As := [.int x1]) (rest := [.ref (fw_ad E 0 18)]) ⟨hx, hb, hml, hown, hU⟩ (k_X10_isMachine l hE x1 hc1) (va_cwS 1 hU (fw_gS m_1232 m_1233 m_9 m_1234) rfl rfl rfl (by decide +kernel) ⟨(Nat.le_of_ble_eq_true rfl), (Nat.le_of_ble_eq_true rfl)⟩) ⟨fw_blind, fun U hU9 hW9 => ⟨rfl, fw_pre hK hP hSt hS U hU9 hW9⟩⟩ rfl rfl hl.1 rfl (lv_room (Nat.le_of_ble_eq_true rfl)) dX10_coloursIn_2 ⟨Nat.zero_le _, Nat.zero_le _⟩) hS (fun H locs hP hS => ?_)
    refine lv_if_eq (tgt := 12) hx hb dX10_coloursIn_5 (by decide) (fun c2 => ?_) (fun c2 => ?_)
    · rw [if_pos c2] at h
      refine lv_iconst (v := (1 : Int32)) hx hb dX10_coloursIn_12 (by decide) ?_
      exact J13 μ x1 (1 : Int32) H locs ls h hP hS (lv_sub hl [0, 1] rfl)
    · rw [if_neg c2] at h
      refine lv_iconst (v := (0 : Int32)) hx hb dX10_coloursIn_8 (by decide) ?_
      refine lv_goto (tgt := 13) hx hb dX10_coloursIn_9 (by decide) ?_
      exact J13 μ x1 (0 : Int32) H locs ls h hP hS (lv_sub hl [0, 1] rfl)
  subst ha
  have hl := lv_entry ([.ref (fw_ad E 0 18), .int x1]) (n := 4) (Nat.le_of_ble_eq_true rfl)
  rw [lg_entry_eq]
  generalize (lg_sl ([.ref (fw_ad E 0 18), .int x1]) ++ List.replicate (4 - (lg_sl ([.ref (fw_ad E 0 18), .int x1])).length) Slot.unset).toArray = ls at hl ⊢
  exact EN s.heap [] ls hP va_S.rf hl
set_option maxHeartbeats 4000000 in
set_option maxRecDepth 100000 in
theorem k_X10_damage (l : Launch) {E : fw_E} {o : Int64} {d : UInt64} (hE : fw_ok E) {μ μ' : fw_M} (x1 : Int32) {r : Int32} (h : f_X10_damage μ x1 = some (μ', r)) : Met l yX10_damage (fw_ws yX10_damage cX10_damage 2 (some .int)) ({ frames := 6, cells := 0, slots := 0, locals := 137 } : Room) (va_Pc [.ref (fw_ad E 0 18), .int x1] (fw_Pre E o d μ)) (fw_Q E o d (some (.int r)) μ') 0 0 (fw_A E) := by
  refine Met.ofW (cc := cX10_damage) (maxL := 2) (ret := (some .int)) (by decide) rfl ?_
  intro p e s m args below meth c s₁ B hml hv
  obtain ⟨ha, hK, hP, hSt⟩ := hv
  have hx := B.exec
  have hb := B.bytes
  have hr := B.returns
  have hts := atoms_spec (ws := fw_ws yX10_damage cX10_damage 2 (some .int)) B.pre
  have hU : ∀ w ∈ fw_U, w.before args s = true := fun w hw => hts w (List.mem_cons_of_mem _ hw)
  have hown : s.vm.findClass RX10 = some m.cls := findClass_of_methodNamed B.named
  have hlocks := B.notSynchronized
  have J13 : ∀ (μ : fw_M) (x1 : Int32) (s1 : Int32) (H : Heap) (locs : List Loc) (ls : Array Slot), f_X10_damage_J13 μ x1 s1 = some (μ', r) → fw_P E o d μ H → va_S (fw_A E) s.heap H locs → lv_has ls 2 [(0, .ref (fw_ad E 0 18)), (1, .int x1)] → W p l e (headSpec (fw_ws yX10_damage cX10_damage 2 (some .int)) ({ frames := 6, cells := 0, slots := 0, locals := 137 } : Room)).room s m args below meth c H locs 0 0 (MQ below (fw_Q E o d (some (.int r)) μ') args s 0 0 (fw_A E)) (F0 m 13 ls [.int s1, .ref (fw_ad E 0 18)]) := by
    intro μ x1 s1 H locs ls h hP hS hl
    unfold f_X10_damage_J13 at h
    refine fw_put (ci := 8) (v := .int s1) (ty := .int) (C := RX10) (T := TX10) (N := 20) hx hb hU inU10 tyX10 tyX10_ok nmX10 hown hK hP hE hS (fw_V0 (f := 18) (by decide) (by decide)) rfl rfl 0 (by decide) (hU (Cond.fieldLink RX10 41 "LaundryServiceModel" "thrown" "I") m_1117) (fun _ h9 => h9) rfl (by decide +kernel) rfl rfl (Nat.le_of_ble_eq_true rfl) 0 s1 (by rw [fw_u_c]; rfl) dX10_damage_13 (fun H locs hP hS => ?_)
    obtain ⟨μ3, eμ3, h⟩ := fw_l_e h
    rw [← eμ3] at hP
    refine lv_aload_n hx hb dX10_damage_16 rfl (lv_at hl 0 rfl) ?_
    refine va_get (D := fw_D E) (ci := 8) (v := .int (μ3 0 18 0)) (C := RX10) (T := TX10) (N := 20) hx hb hU inU10 hown hK (fw_at hP (fw_V0 (f := 18) (by decide) (by decide))) 0 rfl rfl 0 (by decide) (hU (Cond.fieldLink RX10 41 "LaundryServiceModel" "thrown" "I") m_1117) (fun _ h9 => h9) rfl dX10_damage_17 ?_
    refine lv_if_le (tgt := 27) hx hb dX10_damage_20 (by decide) (fun c4 => ?_) (fun c4 => ?_)
    · rw [if_pos c4] at h
      refine lv_aload_n hx hb dX10_damage_27 rfl (lv_at hl 0 rfl) ?_
      refine lv_iload_n hx hb dX10_damage_28 rfl (lv_at hl 1 rfl) ?_
      refine lv_aload_n hx hb dX10_damage_29 rfl (lv_at hl 0 rfl) ?_
      refine va_get (D := fw_D E) (ci := 8) (v := .ref (fw_ad E 0 19)) (C := RX10) (T := TX10) (N := 20) hx hb hU inU10 hown hK (fw_at hP (fw_V0 (f := 18) (by decide) (by decide))) 0 rfl rfl 1 (by decide) (hU (Cond.fieldLink RX10 7 "LaundryServiceModel" "s" "[I") m_1118) (fun _ h9 => h9) rfl dX10_damage_30 ?_
      refine lv_iconst (v := (2 : Int32)) hx hb dX10_damage_33 (by decide) ?_
      refine lv_iload_n hx hb dX10_damage_34 rfl (lv_at hl 1 rfl) ?_
      refine lv_iadd hx hb dX10_damage_35 ?_
      obtain ⟨g5, h⟩ := fw_g_e h
      refine va_iald (D := fw_D E) hx hb hK (fw_at hP (fw_V0 (f := 19) (by decide) (by decide))) 0 0 rfl rfl (fw_in_e g5) dX10_damage_36 ?_
      obtain ⟨r6, hc6, h⟩ := fw_b1_e h
      refine fw_ret (va_runV (As := [.int x1, .int (μ3 0 19 ((2 : Int32) + x1).toNatClampNeg)]) (rest := []) ⟨hx, hb, hml, hown, hU⟩ (k_X10_harm l hE x1 (μ3 0 19 ((2 : Int32) + x1).toNatClampNeg) hc6) (cwV 2 hU (fw_gV m_1424 m_1426 ms_38 m_9 m_1427) rfl rfl rfl (by decide +kernel) ⟨(Nat.le_of_ble_eq_true rfl), (Nat.le_of_ble_eq_true rfl)⟩) ⟨fw_blind, fw_recv hK hP (fw_V0 (f := 18) (by decide) (by decide)) rfl rfl, fun U hU9 hW9 => ⟨rfl, fw_pre hK hP hSt hS U hU9 hW9⟩⟩ rfl rfl hl.1 rfl (lv_room (Nat.le_of_ble_eq_true rfl)) dX10_damage_37 ⟨Nat.zero_le _, Nat.zero_le _⟩) hS (fun H locs hP hS => ?_)
      exact W.iret (v := r6) hx hb hr (fw_ew (mk := Value.int) h hP hS) hS.2.2 dX10_damage_40
    · rw [if_neg c4] at h
      refine lv_iconst (v := (0 : Int32)) hx hb dX10_damage_23 (by decide) ?_
      refine lv_goto (tgt := 40) hx hb dX10_damage_24 (by decide) ?_
      exact W.iret (v := (0 : Int32)) hx hb hr (fw_ew (mk := Value.int) h hP hS) hS.2.2 dX10_damage_40
  have EN : ∀ (H : Heap) (locs : List Loc) (ls : Array Slot), fw_P E o d μ H → va_S (fw_A E) s.heap H locs → lv_has ls 2 [(0, .ref (fw_ad E 0 18)), (1, .int x1)] → W p l e (headSpec (fw_ws yX10_damage cX10_damage 2 (some .int)) ({ frames := 6, cells := 0, slots := 0, locals := 137 } : Room)).room s m args below meth c H locs 0 0 (MQ below (fw_Q E o d (some (.int r)) μ') args s 0 0 (fw_A E)) (F0 m 0 ls []) := by
    intro H locs ls hP hS hl
    unfold f_X10_damage at h
    refine lv_aload_n hx hb dX10_damage_0 rfl (lv_at hl 0 rfl) ?_
    refine lv_iload_n hx hb dX10_damage_1 rfl (lv_at hl 1 rfl) ?_
    obtain ⟨r1, hc1, h⟩ := fw_b1_e h
    refine fw_ret (va_runS (As := [.int x1]) (rest := [.ref (fw_ad E 0 18)]) ⟨hx, hb, hml, hown, hU⟩ (k_X10_isMachine l hE x1 hc1) (va_cwS 1 hU (fw_gS m_1232 m_1233 m_9 m_1234) rfl rfl rfl (by decide +kernel) ⟨(Nat.le_of_ble_eq_true rfl), (Nat.le_of_ble_eq_true rfl)⟩) ⟨fw_blind, fun U hU9 hW9 => ⟨rfl, fw_pre hK hP hSt hS U hU9 hW9⟩⟩ rfl rfl hl.1 rfl (lv_room (Nat.le_of_ble_eq_true rfl)) dX10_damage_2 ⟨Nat.zero_le _, Nat.zero_le _⟩) hS (fun H locs hP hS => ?_)
    refine lv_if_eq (tgt := 12) hx hb dX10_damage_5 (by decide) (fun c2 => ?_) (fun c2 => ?_)
    · rw [if_pos c2] at h
      refine lv_iconst (v := (1 : Int32)) hx hb dX10_damage_12 (by decide) ?_
      exact J13 μ x1 (1 : Int32) H locs ls h hP hS (lv_sub hl [0, 1] rfl)
    · rw [if_neg c2] at h
      refine lv_iconst (v := (0 : Int32)) hx hb dX10_damage_8 (by decide) ?_
      refine lv_goto (tgt := 13) hx hb dX10_damage_9 (by decide) ?_
      exact J13 μ x1 (0 : Int32) H locs ls h hP hS (lv_sub hl [0, 1] rfl)
  subst ha
  have hl := lv_entry ([.ref (fw_ad E 0 18), .int x1]) (n := 2) (Nat.le_of_ble_eq_true rfl)
  rw [lg_entry_eq]
  generalize (lg_sl ([.ref (fw_ad E 0 18), .int x1]) ++ List.replicate (2 - (lg_sl ([.ref (fw_ad E 0 18), .int x1])).length) Slot.unset).toArray = ls at hl ⊢
  exact EN s.heap [] ls hP va_S.rf hl
set_option maxHeartbeats 4000000 in
set_option maxRecDepth 100000 in
theorem k_X10_damageByMasks (l : Launch) {E : fw_E} {o : Int64} {d : UInt64} (hE : fw_ok E) {μ μ' : fw_M} (x1 : Int32) {r : Int32} (h : f_X10_damageByMasks μ x1 = some (μ', r)) : Met l yX10_damageByMasks (fw_ws yX10_damageByMasks cX10_damageByMasks 2 (some .int)) ({ frames := 7, cells := 0, slots := 0, locals := 158 } : Room) (va_Pc [.ref (fw_ad E 0 18), .int x1] (fw_Pre E o d μ)) (fw_Q E o d (some (.int r)) μ') 0 0 (fw_A E) := by
  refine Met.ofW (cc := cX10_damageByMasks) (maxL := 2) (ret := (some .int)) (by decide) rfl ?_
  intro p e s m args below meth c s₁ B hml hv
  obtain ⟨ha, hK, hP, hSt⟩ := hv
  have hx := B.exec
  have hb := B.bytes
  have hr := B.returns
  have hts := atoms_spec (ws := fw_ws yX10_damageByMasks cX10_damageByMasks 2 (some .int)) B.pre
  have hU : ∀ w ∈ fw_U, w.before args s = true := fun w hw => hts w (List.mem_cons_of_mem _ hw)
  have hown : s.vm.findClass RX10 = some m.cls := findClass_of_methodNamed B.named
  have hlocks := B.notSynchronized
  have EN : ∀ (H : Heap) (locs : List Loc) (ls : Array Slot), fw_P E o d μ H → va_S (fw_A E) s.heap H locs → lv_has ls 2 [(0, .ref (fw_ad E 0 18)), (1, .int x1)] → W p l e (headSpec (fw_ws yX10_damageByMasks cX10_damageByMasks 2 (some .int)) ({ frames := 7, cells := 0, slots := 0, locals := 158 } : Room)).room s m args below meth c H locs 0 0 (MQ below (fw_Q E o d (some (.int r)) μ') args s 0 0 (fw_A E)) (F0 m 0 ls []) := by
    intro H locs ls hP hS hl
    unfold f_X10_damageByMasks at h
    refine lv_aload_n hx hb dX10_damageByMasks_0 rfl (lv_at hl 0 rfl) ?_
    refine lv_iload_n hx hb dX10_damageByMasks_1 rfl (lv_at hl 1 rfl) ?_
    obtain ⟨μ1, r1, hc1, h⟩ := fw_b2_e h
    refine fw_ret (va_runV (As := [.int x1]) (rest := []) ⟨hx, hb, hml, hown, hU⟩ (k_X10_damage l hE x1 hc1) (cwV 1 hU (fw_gV m_1432 m_1421 m_1422 m_9 m_1423) rfl rfl rfl (by decide +kernel) ⟨(Nat.le_of_ble_eq_true rfl), (Nat.le_of_ble_eq_true rfl)⟩) ⟨fw_blind, fw_recv hK hP (fw_V0 (f := 18) (by decide) (by decide)) rfl rfl, fun U hU9 hW9 => ⟨rfl, fw_pre hK hP hSt hS U hU9 hW9⟩⟩ rfl rfl hl.1 rfl (lv_room (Nat.le_of_ble_eq_true rfl)) dX10_damageByMasks_2 ⟨Nat.zero_le _, Nat.zero_le _⟩) hS (fun H locs hP hS => ?_)
    exact W.iret (v := r1) hx hb hr (fw_ew (mk := Value.int) h hP hS) hS.2.2 dX10_damageByMasks_5
  subst ha
  have hl := lv_entry ([.ref (fw_ad E 0 18), .int x1]) (n := 2) (Nat.le_of_ble_eq_true rfl)
  rw [lg_entry_eq]
  generalize (lg_sl ([.ref (fw_ad E 0 18), .int x1]) ++ List.replicate (2 - (lg_sl ([.ref (fw_ad E 0 18), .int x1])).length) Slot.unset).toArray = ls at hl ⊢
  exact EN s.heap [] ls hP va_S.rf hl
set_option maxHeartbeats 4000000 in
set_option maxRecDepth 100000 in
theorem k_X10_bestTemperature (l : Launch) {E : fw_E} {o : Int64} {d : UInt64} (hE : fw_ok E) {μ μ' : fw_M} (x1 : Int32) {r : Int32} (h : f_X10_bestTemperature μ x1 = some (μ', r)) : Met l yX10_bestTemperature (fw_ws yX10_bestTemperature cX10_bestTemperature 4 (some .int)) ({ frames := 6, cells := 0, slots := 0, locals := 137 } : Room) (va_Pc [.ref (fw_ad E 0 18), .int x1] (fw_Pre E o d μ)) (fw_Q E o d (some (.int r)) μ') 0 0 (fw_A E) := by
  refine Met.ofW (cc := cX10_bestTemperature) (maxL := 4) (ret := (some .int)) (by decide) rfl ?_
  intro p e s m args below meth c s₁ B hml hv
  obtain ⟨ha, hK, hP, hSt⟩ := hv
  have hx := B.exec
  have hb := B.bytes
  have hr := B.returns
  have hts := atoms_spec (ws := fw_ws yX10_bestTemperature cX10_bestTemperature 4 (some .int)) B.pre
  have hU : ∀ w ∈ fw_U, w.before args s = true := fun w hw => hts w (List.mem_cons_of_mem _ hw)
  have hown : s.vm.findClass RX10 = some m.cls := findClass_of_methodNamed B.named
  have hlocks := B.notSynchronized
  have L43 : ∀ (n : Nat) (μ : fw_M) (x1 : Int32) (x2 : Int32) (x3 : Int32) (H : Heap) (locs : List Loc) (ls : Array Slot), f_X10_bestTemperature_L43 n μ x1 x2 x3 = some (μ', r) → fw_P E o d μ H → va_S (fw_A E) s.heap H locs → lv_has ls 4 [(0, .ref (fw_ad E 0 18)), (1, .int x1), (2, .int x2), (3, .int x3)] → W p l e (headSpec (fw_ws yX10_bestTemperature cX10_bestTemperature 4 (some .int)) ({ frames := 6, cells := 0, slots := 0, locals := 137 } : Room)).room s m args below meth c H locs 0 0 (MQ below (fw_Q E o d (some (.int r)) μ') args s 0 0 (fw_A E)) (F0 m 43 ls []) := by
    intro n43
    induction n43 with
    | zero => intro μ x1 x2 x3 H locs ls h; rw [f_X10_bestTemperature_L43] at h; cases h
    | succ n43 ih43 =>
      intro μ x1 x2 x3 H locs ls h hP hS hl
      rw [f_X10_bestTemperature_L43] at h
      refine lv_iload_n hx hb dX10_bestTemperature_43 rfl (lv_at hl 3 rfl) ?_
      refine lv_sipush (v := (180 : Int32)) hx hb dX10_bestTemperature_44 (by decide) ?_
      refine lv_icmp_gt (tgt := 77) hx hb dX10_bestTemperature_47 (by decide) (fun c7 => ?_) (fun c7 => ?_)
      · rw [if_pos c7] at h
        refine lv_iload_n hx hb dX10_bestTemperature_77 rfl (lv_at hl 2 rfl) ?_
        exact W.iret (v := x2) hx hb hr (fw_ew (mk := Value.int) h hP hS) hS.2.2 dX10_bestTemperature_78
      · rw [if_neg c7] at h
        refine lv_aload_n hx hb dX10_bestTemperature_50 rfl (lv_at hl 0 rfl) ?_
        refine lv_iload_n hx hb dX10_bestTemperature_51 rfl (lv_at hl 1 rfl) ?_
        refine lv_iload_n hx hb dX10_bestTemperature_52 rfl (lv_at hl 3 rfl) ?_
        obtain ⟨r8, hc8, h⟩ := fw_b1_e h
        refine fw_ret (va_runV (As := [.int x1, .int x3]) (rest := []) ⟨hx, hb, hml, hown, hU⟩ (k_X10_harm l hE x1 x3 hc8) (cwV 2 hU (fw_gV m_1424 m_1426 ms_38 m_9 m_1427) rfl rfl rfl (by decide +kernel) ⟨(Nat.le_of_ble_eq_true rfl), (Nat.le_of_ble_eq_true rfl)⟩) ⟨fw_blind, fw_recv hK hP (fw_V0 (f := 18) (by decide) (by decide)) rfl rfl, fun U hU9 hW9 => ⟨rfl, fw_pre hK hP hSt hS U hU9 hW9⟩⟩ rfl rfl hl.1 rfl (lv_room (Nat.le_of_ble_eq_true rfl)) dX10_bestTemperature_53 ⟨Nat.zero_le _, Nat.zero_le _⟩) hS (fun H locs hP hS => ?_)
        refine lv_aload_n hx hb dX10_bestTemperature_56 rfl (lv_at hl 0 rfl) ?_
        refine lv_iload_n hx hb dX10_bestTemperature_57 rfl (lv_at hl 1 rfl) ?_
        refine lv_iload_n hx hb dX10_bestTemperature_58 rfl (lv_at hl 2 rfl) ?_
        obtain ⟨r9, hc9, h⟩ := fw_b1_e h
        refine fw_ret (va_runV (As := [.int x1, .int x2]) (rest := [.int r8]) ⟨hx, hb, hml, hown, hU⟩ (k_X10_harm l hE x1 x2 hc9) (cwV 2 hU (fw_gV m_1424 m_1426 ms_38 m_9 m_1427) rfl rfl rfl (by decide +kernel) ⟨(Nat.le_of_ble_eq_true rfl), (Nat.le_of_ble_eq_true rfl)⟩) ⟨fw_blind, fw_recv hK hP (fw_V0 (f := 18) (by decide) (by decide)) rfl rfl, fun U hU9 hW9 => ⟨rfl, fw_pre hK hP hSt hS U hU9 hW9⟩⟩ rfl rfl hl.1 rfl (lv_room (Nat.le_of_ble_eq_true rfl)) dX10_bestTemperature_59 ⟨Nat.zero_le _, Nat.zero_le _⟩) hS (fun H locs hP hS => ?_)
        refine lv_icmp_ge (tgt := 69) hx hb dX10_bestTemperature_62 (by decide) (fun c10 => ?_) (fun c10 => ?_)
        · rw [if_pos c10] at h
          refine lv_iload_n hx hb dX10_bestTemperature_69 rfl (lv_at hl 2 rfl) ?_
          refine lv_istore_n (lv' := [(2, .int x2), (0, .ref (fw_ad E 0 18)), (1, .int x1), (3, .int x3)]) hx hb dX10_bestTemperature_70 rfl hl (by decide) rfl (fun ls hl => ?_)
          refine lv_iinc (v := (x3 + (1 : Int32))) (lv' := [(3, .int (x3 + (1 : Int32))), (2, .int x2), (0, .ref (fw_ad E 0 18)), (1, .int x1)]) hx hb dX10_bestTemperature_71 hl (k := 3) rfl rfl (by decide) rfl (fun ls hl => ?_)
          refine lv_goto (tgt := 43) hx hb dX10_bestTemperature_74 (by decide) ?_
          exact ih43 μ x1 x2 (x3 + (1 : Int32)) H locs ls h hP hS (lv_sub hl [2, 3, 1, 0] rfl)
        · rw [if_neg c10] at h
          refine lv_iload_n hx hb dX10_bestTemperature_65 rfl (lv_at hl 3 rfl) ?_
          refine lv_goto (tgt := 70) hx hb dX10_bestTemperature_66 (by decide) ?_
          refine lv_istore_n (lv' := [(2, .int x3), (0, .ref (fw_ad E 0 18)), (1, .int x1), (3, .int x3)]) hx hb dX10_bestTemperature_70 rfl hl (by decide) rfl (fun ls hl => ?_)
          refine lv_iinc (v := (x3 + (1 : Int32))) (lv' := [(3, .int (x3 + (1 : Int32))), (2, .int x3), (0, .ref (fw_ad E 0 18)), (1, .int x1)]) hx hb dX10_bestTemperature_71 hl (k := 3) rfl rfl (by decide) rfl (fun ls hl => ?_)
          refine lv_goto (tgt := 43) hx hb dX10_bestTemperature_74 (by decide) ?_
          exact ih43 μ x1 x3 (x3 + (1 : Int32)) H locs ls h hP hS (lv_sub hl [2, 3, 1, 0] rfl)
  have J25 : ∀ (μ : fw_M) (x1 : Int32) (s1 : Int32) (H : Heap) (locs : List Loc) (ls : Array Slot), f_X10_bestTemperature_J25 μ x1 s1 = some (μ', r) → fw_P E o d μ H → va_S (fw_A E) s.heap H locs → lv_has ls 4 [(0, .ref (fw_ad E 0 18)), (1, .int x1)] → W p l e (headSpec (fw_ws yX10_bestTemperature cX10_bestTemperature 4 (some .int)) ({ frames := 6, cells := 0, slots := 0, locals := 137 } : Room)).room s m args below meth c H locs 0 0 (MQ below (fw_Q E o d (some (.int r)) μ') args s 0 0 (fw_A E)) (F0 m 25 ls [.int s1, .ref (fw_ad E 0 18)]) := by
    intro μ x1 s1 H locs ls h hP hS hl
    unfold f_X10_bestTemperature_J25 at h
    refine fw_put (ci := 8) (v := .int s1) (ty := .int) (C := RX10) (T := TX10) (N := 20) hx hb hU inU10 tyX10 tyX10_ok nmX10 hown hK hP hE hS (fw_V0 (f := 18) (by decide) (by decide)) rfl rfl 0 (by decide) (hU (Cond.fieldLink RX10 41 "LaundryServiceModel" "thrown" "I") m_1117) (fun _ h9 => h9) rfl (by decide +kernel) rfl rfl (Nat.le_of_ble_eq_true rfl) 0 s1 (by rw [fw_u_c]; rfl) dX10_bestTemperature_25 (fun H locs hP hS => ?_)
    obtain ⟨μ5, eμ5, h⟩ := fw_l_e h
    rw [← eμ5] at hP
    refine lv_aload_n hx hb dX10_bestTemperature_28 rfl (lv_at hl 0 rfl) ?_
    refine va_get (D := fw_D E) (ci := 8) (v := .int (μ5 0 18 0)) (C := RX10) (T := TX10) (N := 20) hx hb hU inU10 hown hK (fw_at hP (fw_V0 (f := 18) (by decide) (by decide))) 0 rfl rfl 0 (by decide) (hU (Cond.fieldLink RX10 41 "LaundryServiceModel" "thrown" "I") m_1117) (fun _ h9 => h9) rfl dX10_bestTemperature_29 ?_
    refine lv_if_le (tgt := 37) hx hb dX10_bestTemperature_32 (by decide) (fun c6 => ?_) (fun c6 => ?_)
    · rw [if_pos c6] at h
      refine lv_bipush (v := (40 : Int32)) hx hb dX10_bestTemperature_37 (by decide) ?_
      refine lv_istore_n (lv' := [(2, .int (40 : Int32)), (0, .ref (fw_ad E 0 18)), (1, .int x1)]) hx hb dX10_bestTemperature_39 rfl hl (by decide) rfl (fun ls hl => ?_)
      refine lv_bipush (v := (41 : Int32)) hx hb dX10_bestTemperature_40 (by decide) ?_
      refine lv_istore_n (lv' := [(3, .int (41 : Int32)), (2, .int (40 : Int32)), (0, .ref (fw_ad E 0 18)), (1, .int x1)]) hx hb dX10_bestTemperature_42 rfl hl (by decide) rfl (fun ls hl => ?_)
      exact L43 1000 μ5 x1 (40 : Int32) (41 : Int32) H locs ls h hP hS (lv_sub hl [2, 3, 1, 0] rfl)
    · rw [if_neg c6] at h
      refine lv_iconst (v := (0 : Int32)) hx hb dX10_bestTemperature_35 (by decide) ?_
      exact W.iret (v := (0 : Int32)) hx hb hr (fw_ew (mk := Value.int) h hP hS) hS.2.2 dX10_bestTemperature_36
  have EN : ∀ (H : Heap) (locs : List Loc) (ls : Array Slot), fw_P E o d μ H → va_S (fw_A E) s.heap H locs → lv_has ls 4 [(0, .ref (fw_ad E 0 18)), (1, .int x1)] → W p l e (headSpec (fw_ws yX10_bestTemperature cX10_bestTemperature 4 (some .int)) ({ frames := 6, cells := 0, slots := 0, locals := 137 } : Room)).room s m args below meth c H locs 0 0 (MQ below (fw_Q E o d (some (.int r)) μ') args s 0 0 (fw_A E)) (F0 m 0 ls []) := by
    intro H locs ls hP hS hl
    unfold f_X10_bestTemperature at h
    refine lv_aload_n hx hb dX10_bestTemperature_0 rfl (lv_at hl 0 rfl) ?_
    refine lv_iload_n hx hb dX10_bestTemperature_1 rfl (lv_at hl 1 rfl) ?_
    obtain ⟨r1, hc1, h⟩ := fw_b1_e h
    refine fw_ret (va_runS (As := [.int x1]) (rest := [.ref (fw_ad E 0 18)]) ⟨hx, hb, hml, hown, hU⟩ (k_X10_isMachine l hE x1 hc1) (va_cwS 1 hU (fw_gS m_1232 m_1233 m_9 m_1234) rfl rfl rfl (by decide +kernel) ⟨(Nat.le_of_ble_eq_true rfl), (Nat.le_of_ble_eq_true rfl)⟩) ⟨fw_blind, fun U hU9 hW9 => ⟨rfl, fw_pre hK hP hSt hS U hU9 hW9⟩⟩ rfl rfl hl.1 rfl (lv_room (Nat.le_of_ble_eq_true rfl)) dX10_bestTemperature_2 ⟨Nat.zero_le _, Nat.zero_le _⟩) hS (fun H locs hP hS => ?_)
    refine lv_if_ne (tgt := 12) hx hb dX10_bestTemperature_5 (by decide) (fun c2 => ?_) (fun c2 => ?_)
    · rw [if_neg c2] at h
      refine lv_aload_n hx hb dX10_bestTemperature_12 rfl (lv_at hl 0 rfl) ?_
      refine lv_iload_n hx hb dX10_bestTemperature_13 rfl (lv_at hl 1 rfl) ?_
      obtain ⟨r3, hc3, h⟩ := fw_b1_e h
      refine fw_ret (va_runV (As := [.int x1]) (rest := [.ref (fw_ad E 0 18)]) ⟨hx, hb, hml, hown, hU⟩ (k_X10_held l hE x1 hc3) (cwV 1 hU (fw_gV m_1239 m_1241 ms_21 m_9 m_1242) rfl rfl rfl (by decide +kernel) ⟨(Nat.le_of_ble_eq_true rfl), (Nat.le_of_ble_eq_true rfl)⟩) ⟨fw_blind, fw_recv hK hP (fw_V0 (f := 18) (by decide) (by decide)) rfl rfl, fun U hU9 hW9 => ⟨rfl, fw_pre hK hP hSt hS U hU9 hW9⟩⟩ rfl rfl hl.1 rfl (lv_room (Nat.le_of_ble_eq_true rfl)) dX10_bestTemperature_14 ⟨Nat.zero_le _, Nat.zero_le _⟩) hS (fun H locs hP hS => ?_)
      refine lv_if_ne (tgt := 24) hx hb dX10_bestTemperature_17 (by decide) (fun c4 => ?_) (fun c4 => ?_)
      · rw [if_neg c4] at h
        refine lv_iconst (v := (0 : Int32)) hx hb dX10_bestTemperature_24 (by decide) ?_
        exact J25 μ x1 (0 : Int32) H locs ls h hP hS (lv_sub hl [0, 1] rfl)
      · rw [if_pos c4] at h
        refine lv_iconst (v := (2 : Int32)) hx hb dX10_bestTemperature_20 (by decide) ?_
        refine lv_goto (tgt := 25) hx hb dX10_bestTemperature_21 (by decide) ?_
        exact J25 μ x1 (2 : Int32) H locs ls h hP hS (lv_sub hl [0, 1] rfl)
    · rw [if_pos c2] at h
      refine lv_iconst (v := (1 : Int32)) hx hb dX10_bestTemperature_8 (by decide) ?_
      refine lv_goto (tgt := 25) hx hb dX10_bestTemperature_9 (by decide) ?_
      exact J25 μ x1 (1 : Int32) H locs ls h hP hS (lv_sub hl [0, 1] rfl)
  subst ha
  have hl := lv_entry ([.ref (fw_ad E 0 18), .int x1]) (n := 4) (Nat.le_of_ble_eq_true rfl)
  rw [lg_entry_eq]
  generalize (lg_sl ([.ref (fw_ad E 0 18), .int x1]) ++ List.replicate (4 - (lg_sl ([.ref (fw_ad E 0 18), .int x1])).length) Slot.unset).toArray = ls at hl ⊢
  exact EN s.heap [] ls hP va_S.rf hl
set_option maxHeartbeats 4000000 in
set_option maxRecDepth 100000 in
theorem k_X10_price (l : Launch) {E : fw_E} {o : Int64} {d : UInt64} (hE : fw_ok E) {μ μ' : fw_M} (x1 : Int32) (x2 : Int32) {r : UInt32} (h : f_X10_price μ x1 x2 = some (μ', r)) : Met l yX10_price (fw_ws yX10_price cX10_price 3 (some .float)) ({ frames := 4, cells := 0, slots := 0, locals := 93 } : Room) (va_Pc [.ref (fw_ad E 0 18), .int x1, .int x2] (fw_Pre E o d μ)) (fw_Q E o d (some (.float r)) μ') 0 0 (fw_A E) := by
  refine Met.ofW (cc := cX10_price) (maxL := 3) (ret := (some .float)) (by decide) rfl ?_
  intro p e s m args below meth c s₁ B hml hv
  obtain ⟨ha, hK, hP, hSt⟩ := hv
  have hx := B.exec
  have hb := B.bytes
  have hr := B.returns
  have hts := atoms_spec (ws := fw_ws yX10_price cX10_price 3 (some .float)) B.pre
  have hU : ∀ w ∈ fw_U, w.before args s = true := fun w hw => hts w (List.mem_cons_of_mem _ hw)
  have hown : s.vm.findClass RX10 = some m.cls := findClass_of_methodNamed B.named
  have hlocks := B.notSynchronized
  have J20 : ∀ (μ : fw_M) (x1 : Int32) (x2 : Int32) (s1 : Int32) (H : Heap) (locs : List Loc) (ls : Array Slot), f_X10_price_J20 μ x1 x2 s1 = some (μ', r) → fw_P E o d μ H → va_S (fw_A E) s.heap H locs → lv_has ls 3 [(0, .ref (fw_ad E 0 18)), (1, .int x1), (2, .int x2)] → W p l e (headSpec (fw_ws yX10_price cX10_price 3 (some .float)) ({ frames := 4, cells := 0, slots := 0, locals := 93 } : Room)).room s m args below meth c H locs 0 0 (MQ below (fw_Q E o d (some (.float r)) μ') args s 0 0 (fw_A E)) (F0 m 20 ls [.int s1, .ref (fw_ad E 0 18)]) := by
    intro μ x1 x2 s1 H locs ls h hP hS hl
    unfold f_X10_price_J20 at h
    refine fw_put (ci := 8) (v := .int s1) (ty := .int) (C := RX10) (T := TX10) (N := 20) hx hb hU inU10 tyX10 tyX10_ok nmX10 hown hK hP hE hS (fw_V0 (f := 18) (by decide) (by decide)) rfl rfl 0 (by decide) (hU (Cond.fieldLink RX10 41 "LaundryServiceModel" "thrown" "I") m_1117) (fun _ h9 => h9) rfl (by decide +kernel) rfl rfl (Nat.le_of_ble_eq_true rfl) 0 s1 (by rw [fw_u_c]; rfl) dX10_price_20 (fun H locs hP hS => ?_)
    obtain ⟨μ5, eμ5, h⟩ := fw_l_e h
    rw [← eμ5] at hP
    refine lv_aload_n hx hb dX10_price_23 rfl (lv_at hl 0 rfl) ?_
    refine va_get (D := fw_D E) (ci := 8) (v := .int (μ5 0 18 0)) (C := RX10) (T := TX10) (N := 20) hx hb hU inU10 hown hK (fw_at hP (fw_V0 (f := 18) (by decide) (by decide))) 0 rfl rfl 0 (by decide) (hU (Cond.fieldLink RX10 41 "LaundryServiceModel" "thrown" "I") m_1117) (fun _ h9 => h9) rfl dX10_price_24 ?_
    refine lv_if_le (tgt := 34) hx hb dX10_price_27 (by decide) (fun c6 => ?_) (fun c6 => ?_)
    · rw [if_pos c6] at h
      refine lv_aload_n hx hb dX10_price_34 rfl (lv_at hl 0 rfl) ?_
      refine lv_iload_n hx hb dX10_price_35 rfl (lv_at hl 1 rfl) ?_
      refine lv_iload_n hx hb dX10_price_36 rfl (lv_at hl 2 rfl) ?_
      obtain ⟨r7, hc7, h⟩ := fw_b1_e h
      refine fw_ret (va_runV (As := [.int x1, .int x2]) (rest := []) ⟨hx, hb, hml, hown, hU⟩ (k_X10_cost l hE x1 x2 hc7) (cwV 2 hU (fw_gV m_1279 m_1281 ms_27 m_9 m_1282) rfl rfl rfl (by decide +kernel) ⟨(Nat.le_of_ble_eq_true rfl), (Nat.le_of_ble_eq_true rfl)⟩) ⟨fw_blind, fw_recv hK hP (fw_V0 (f := 18) (by decide) (by decide)) rfl rfl, fun U hU9 hW9 => ⟨rfl, fw_pre hK hP hSt hS U hU9 hW9⟩⟩ rfl rfl hl.1 rfl (lv_room (Nat.le_of_ble_eq_true rfl)) dX10_price_37 ⟨Nat.zero_le _, Nat.zero_le _⟩) hS (fun H locs hP hS => ?_)
      exact W.fret (v := r7) hx hb hr (fw_ew (mk := Value.float) h hP hS) hS.2.2 dX10_price_40
    · rw [if_neg c6] at h
      refine lv_fconst0 hx hb dX10_price_30 ?_
      refine lv_goto (tgt := 40) hx hb dX10_price_31 (by decide) ?_
      exact W.fret (v := FP.fconst0) hx hb hr (fw_ew (mk := Value.float) h hP hS) hS.2.2 dX10_price_40
  have J19 : ∀ (μ : fw_M) (x1 : Int32) (x2 : Int32) (H : Heap) (locs : List Loc) (ls : Array Slot), f_X10_price_J19 μ x1 x2 = some (μ', r) → fw_P E o d μ H → va_S (fw_A E) s.heap H locs → lv_has ls 3 [(0, .ref (fw_ad E 0 18)), (1, .int x1), (2, .int x2)] → W p l e (headSpec (fw_ws yX10_price cX10_price 3 (some .float)) ({ frames := 4, cells := 0, slots := 0, locals := 93 } : Room)).room s m args below meth c H locs 0 0 (MQ below (fw_Q E o d (some (.float r)) μ') args s 0 0 (fw_A E)) (F0 m 19 ls [.ref (fw_ad E 0 18)]) := by
    intro μ x1 x2 H locs ls h hP hS hl
    unfold f_X10_price_J19 at h
    refine lv_iconst (v := (1 : Int32)) hx hb dX10_price_19 (by decide) ?_
    exact J20 μ x1 x2 (1 : Int32) H locs ls h hP hS (lv_sub hl [0, 1, 2] rfl)
  have EN : ∀ (H : Heap) (locs : List Loc) (ls : Array Slot), fw_P E o d μ H → va_S (fw_A E) s.heap H locs → lv_has ls 3 [(0, .ref (fw_ad E 0 18)), (1, .int x1), (2, .int x2)] → W p l e (headSpec (fw_ws yX10_price cX10_price 3 (some .float)) ({ frames := 4, cells := 0, slots := 0, locals := 93 } : Room)).room s m args below meth c H locs 0 0 (MQ below (fw_Q E o d (some (.float r)) μ') args s 0 0 (fw_A E)) (F0 m 0 ls []) := by
    intro H locs ls hP hS hl
    unfold f_X10_price at h
    refine lv_aload_n hx hb dX10_price_0 rfl (lv_at hl 0 rfl) ?_
    refine lv_iload_n hx hb dX10_price_1 rfl (lv_at hl 1 rfl) ?_
    obtain ⟨r1, hc1, h⟩ := fw_b1_e h
    refine fw_ret (va_runS (As := [.int x1]) (rest := [.ref (fw_ad E 0 18)]) ⟨hx, hb, hml, hown, hU⟩ (k_X10_isMachine l hE x1 hc1) (va_cwS 1 hU (fw_gS m_1232 m_1233 m_9 m_1234) rfl rfl rfl (by decide +kernel) ⟨(Nat.le_of_ble_eq_true rfl), (Nat.le_of_ble_eq_true rfl)⟩) ⟨fw_blind, fun U hU9 hW9 => ⟨rfl, fw_pre hK hP hSt hS U hU9 hW9⟩⟩ rfl rfl hl.1 rfl (lv_room (Nat.le_of_ble_eq_true rfl)) dX10_price_2 ⟨Nat.zero_le _, Nat.zero_le _⟩) hS (fun H locs hP hS => ?_)
    refine lv_if_eq (tgt := 19) hx hb dX10_price_5 (by decide) (fun c2 => ?_) (fun c2 => ?_)
    · rw [if_pos c2] at h
      exact J19 μ x1 x2 H locs ls h hP hS (lv_sub hl [0, 1, 2] rfl)
    · rw [if_neg c2] at h
      refine lv_iload_n hx hb dX10_price_8 rfl (lv_at hl 2 rfl) ?_
      obtain ⟨r3, hc3, h⟩ := fw_b1_e h
      refine fw_ret (va_runS (As := [.int x2]) (rest := [.ref (fw_ad E 0 18)]) ⟨hx, hb, hml, hown, hU⟩ (k_X10_isClient l hE x2 hc3) (va_cwS 1 hU (fw_gS m_1194 m_1195 m_9 m_1196) rfl rfl rfl (by decide +kernel) ⟨(Nat.le_of_ble_eq_true rfl), (Nat.le_of_ble_eq_true rfl)⟩) ⟨fw_blind, fun U hU9 hW9 => ⟨rfl, fw_pre hK hP hSt hS U hU9 hW9⟩⟩ rfl rfl hl.1 rfl (lv_room (Nat.le_of_ble_eq_true rfl)) dX10_price_9 ⟨Nat.zero_le _, Nat.zero_le _⟩) hS (fun H locs hP hS => ?_)
      refine lv_if_eq (tgt := 19) hx hb dX10_price_12 (by decide) (fun c4 => ?_) (fun c4 => ?_)
      · rw [if_pos c4] at h
        exact J19 μ x1 x2 H locs ls h hP hS (lv_sub hl [0, 1, 2] rfl)
      · rw [if_neg c4] at h
        refine lv_iconst (v := (0 : Int32)) hx hb dX10_price_15 (by decide) ?_
        refine lv_goto (tgt := 20) hx hb dX10_price_16 (by decide) ?_
        exact J20 μ x1 x2 (0 : Int32) H locs ls h hP hS (lv_sub hl [0, 1, 2] rfl)
  subst ha
  have hl := lv_entry ([.ref (fw_ad E 0 18), .int x1, .int x2]) (n := 3) (Nat.le_of_ble_eq_true rfl)
  rw [lg_entry_eq]
  generalize (lg_sl ([.ref (fw_ad E 0 18), .int x1, .int x2]) ++ List.replicate (3 - (lg_sl ([.ref (fw_ad E 0 18), .int x1, .int x2])).length) Slot.unset).toArray = ls at hl ⊢
  exact EN s.heap [] ls hP va_S.rf hl
set_option maxHeartbeats 4000000 in
set_option maxRecDepth 100000 in
theorem k_X10_paid (l : Launch) {E : fw_E} {o : Int64} {d : UInt64} (hE : fw_ok E) {μ μ' : fw_M} (x1 : Int32) {r : UInt32} (h : f_X10_paid μ x1 = some (μ', r)) : Met l yX10_paid (fw_ws yX10_paid cX10_paid 2 (some .float)) ({ frames := 2, cells := 0, slots := 0, locals := 61 } : Room) (va_Pc [.ref (fw_ad E 0 18), .int x1] (fw_Pre E o d μ)) (fw_Q E o d (some (.float r)) μ') 0 0 (fw_A E) := by
  refine Met.ofW (cc := cX10_paid) (maxL := 2) (ret := (some .float)) (by decide) rfl ?_
  intro p e s m args below meth c s₁ B hml hv
  obtain ⟨ha, hK, hP, hSt⟩ := hv
  have hx := B.exec
  have hb := B.bytes
  have hr := B.returns
  have hts := atoms_spec (ws := fw_ws yX10_paid cX10_paid 2 (some .float)) B.pre
  have hU : ∀ w ∈ fw_U, w.before args s = true := fun w hw => hts w (List.mem_cons_of_mem _ hw)
  have hown : s.vm.findClass RX10 = some m.cls := findClass_of_methodNamed B.named
  have hlocks := B.notSynchronized
  have J13 : ∀ (μ : fw_M) (x1 : Int32) (s1 : Int32) (H : Heap) (locs : List Loc) (ls : Array Slot), f_X10_paid_J13 μ x1 s1 = some (μ', r) → fw_P E o d μ H → va_S (fw_A E) s.heap H locs → lv_has ls 2 [(0, .ref (fw_ad E 0 18)), (1, .int x1)] → W p l e (headSpec (fw_ws yX10_paid cX10_paid 2 (some .float)) ({ frames := 2, cells := 0, slots := 0, locals := 61 } : Room)).room s m args below meth c H locs 0 0 (MQ below (fw_Q E o d (some (.float r)) μ') args s 0 0 (fw_A E)) (F0 m 13 ls [.int s1, .ref (fw_ad E 0 18)]) := by
    intro μ x1 s1 H locs ls h hP hS hl
    unfold f_X10_paid_J13 at h
    refine fw_put (ci := 8) (v := .int s1) (ty := .int) (C := RX10) (T := TX10) (N := 20) hx hb hU inU10 tyX10 tyX10_ok nmX10 hown hK hP hE hS (fw_V0 (f := 18) (by decide) (by decide)) rfl rfl 0 (by decide) (hU (Cond.fieldLink RX10 41 "LaundryServiceModel" "thrown" "I") m_1117) (fun _ h9 => h9) rfl (by decide +kernel) rfl rfl (Nat.le_of_ble_eq_true rfl) 0 s1 (by rw [fw_u_c]; rfl) dX10_paid_13 (fun H locs hP hS => ?_)
    obtain ⟨μ3, eμ3, h⟩ := fw_l_e h
    rw [← eμ3] at hP
    refine lv_aload_n hx hb dX10_paid_16 rfl (lv_at hl 0 rfl) ?_
    refine va_get (D := fw_D E) (ci := 8) (v := .int (μ3 0 18 0)) (C := RX10) (T := TX10) (N := 20) hx hb hU inU10 hown hK (fw_at hP (fw_V0 (f := 18) (by decide) (by decide))) 0 rfl rfl 0 (by decide) (hU (Cond.fieldLink RX10 41 "LaundryServiceModel" "thrown" "I") m_1117) (fun _ h9 => h9) rfl dX10_paid_17 ?_
    refine lv_if_le (tgt := 27) hx hb dX10_paid_20 (by decide) (fun c4 => ?_) (fun c4 => ?_)
    · rw [if_pos c4] at h
      refine lv_aload_n hx hb dX10_paid_27 rfl (lv_at hl 0 rfl) ?_
      refine lv_iload_n hx hb dX10_paid_28 rfl (lv_at hl 1 rfl) ?_
      obtain ⟨r5, hc5, h⟩ := fw_b1_e h
      refine fw_ret (va_runV (As := [.int x1]) (rest := []) ⟨hx, hb, hml, hown, hU⟩ (k_X10_sumOf l hE x1 hc5) (cwV 1 hU (fw_gV m_1272 m_1274 ms_26 m_9 m_1275) rfl rfl rfl (by decide +kernel) ⟨(Nat.le_of_ble_eq_true rfl), (Nat.le_of_ble_eq_true rfl)⟩) ⟨fw_blind, fw_recv hK hP (fw_V0 (f := 18) (by decide) (by decide)) rfl rfl, fun U hU9 hW9 => ⟨rfl, fw_pre hK hP hSt hS U hU9 hW9⟩⟩ rfl rfl hl.1 rfl (lv_room (Nat.le_of_ble_eq_true rfl)) dX10_paid_29 ⟨Nat.zero_le _, Nat.zero_le _⟩) hS (fun H locs hP hS => ?_)
      exact W.fret (v := r5) hx hb hr (fw_ew (mk := Value.float) h hP hS) hS.2.2 dX10_paid_32
    · rw [if_neg c4] at h
      refine lv_fconst0 hx hb dX10_paid_23 ?_
      refine lv_goto (tgt := 32) hx hb dX10_paid_24 (by decide) ?_
      exact W.fret (v := FP.fconst0) hx hb hr (fw_ew (mk := Value.float) h hP hS) hS.2.2 dX10_paid_32
  have EN : ∀ (H : Heap) (locs : List Loc) (ls : Array Slot), fw_P E o d μ H → va_S (fw_A E) s.heap H locs → lv_has ls 2 [(0, .ref (fw_ad E 0 18)), (1, .int x1)] → W p l e (headSpec (fw_ws yX10_paid cX10_paid 2 (some .float)) ({ frames := 2, cells := 0, slots := 0, locals := 61 } : Room)).room s m args below meth c H locs 0 0 (MQ below (fw_Q E o d (some (.float r)) μ') args s 0 0 (fw_A E)) (F0 m 0 ls []) := by
    intro H locs ls hP hS hl
    unfold f_X10_paid at h
    refine lv_aload_n hx hb dX10_paid_0 rfl (lv_at hl 0 rfl) ?_
    refine lv_iload_n hx hb dX10_paid_1 rfl (lv_at hl 1 rfl) ?_
    obtain ⟨r1, hc1, h⟩ := fw_b1_e h
    refine fw_ret (va_runS (As := [.int x1]) (rest := [.ref (fw_ad E 0 18)]) ⟨hx, hb, hml, hown, hU⟩ (k_X10_isClient l hE x1 hc1) (va_cwS 1 hU (fw_gS m_1194 m_1195 m_9 m_1196) rfl rfl rfl (by decide +kernel) ⟨(Nat.le_of_ble_eq_true rfl), (Nat.le_of_ble_eq_true rfl)⟩) ⟨fw_blind, fun U hU9 hW9 => ⟨rfl, fw_pre hK hP hSt hS U hU9 hW9⟩⟩ rfl rfl hl.1 rfl (lv_room (Nat.le_of_ble_eq_true rfl)) dX10_paid_2 ⟨Nat.zero_le _, Nat.zero_le _⟩) hS (fun H locs hP hS => ?_)
    refine lv_if_eq (tgt := 12) hx hb dX10_paid_5 (by decide) (fun c2 => ?_) (fun c2 => ?_)
    · rw [if_pos c2] at h
      refine lv_iconst (v := (1 : Int32)) hx hb dX10_paid_12 (by decide) ?_
      exact J13 μ x1 (1 : Int32) H locs ls h hP hS (lv_sub hl [0, 1] rfl)
    · rw [if_neg c2] at h
      refine lv_iconst (v := (0 : Int32)) hx hb dX10_paid_8 (by decide) ?_
      refine lv_goto (tgt := 13) hx hb dX10_paid_9 (by decide) ?_
      exact J13 μ x1 (0 : Int32) H locs ls h hP hS (lv_sub hl [0, 1] rfl)
  subst ha
  have hl := lv_entry ([.ref (fw_ad E 0 18), .int x1]) (n := 2) (Nat.le_of_ble_eq_true rfl)
  rw [lg_entry_eq]
  generalize (lg_sl ([.ref (fw_ad E 0 18), .int x1]) ++ List.replicate (2 - (lg_sl ([.ref (fw_ad E 0 18), .int x1])).length) Slot.unset).toArray = ls at hl ⊢
  exact EN s.heap [] ls hP va_S.rf hl
set_option maxHeartbeats 4000000 in
set_option maxRecDepth 100000 in
theorem k_X10_paidBits (l : Launch) {E : fw_E} {o : Int64} {d : UInt64} (hE : fw_ok E) {μ μ' : fw_M} (x1 : Int32) {r : Int32} (h : f_X10_paidBits μ x1 = some (μ', r)) : Met l yX10_paidBits (fw_ws yX10_paidBits cX10_paidBits 2 (some .int)) ({ frames := 2, cells := 0, slots := 0, locals := 42 } : Room) (va_Pc [.ref (fw_ad E 0 18), .int x1] (fw_Pre E o d μ)) (fw_Q E o d (some (.int r)) μ') 0 0 (fw_A E) := by
  refine Met.ofW (cc := cX10_paidBits) (maxL := 2) (ret := (some .int)) (by decide) rfl ?_
  intro p e s m args below meth c s₁ B hml hv
  obtain ⟨ha, hK, hP, hSt⟩ := hv
  have hx := B.exec
  have hb := B.bytes
  have hr := B.returns
  have hts := atoms_spec (ws := fw_ws yX10_paidBits cX10_paidBits 2 (some .int)) B.pre
  have hU : ∀ w ∈ fw_U, w.before args s = true := fun w hw => hts w (List.mem_cons_of_mem _ hw)
  have hown : s.vm.findClass RX10 = some m.cls := findClass_of_methodNamed B.named
  have hlocks := B.notSynchronized
  have J13 : ∀ (μ : fw_M) (x1 : Int32) (s1 : Int32) (H : Heap) (locs : List Loc) (ls : Array Slot), f_X10_paidBits_J13 μ x1 s1 = some (μ', r) → fw_P E o d μ H → va_S (fw_A E) s.heap H locs → lv_has ls 2 [(0, .ref (fw_ad E 0 18)), (1, .int x1)] → W p l e (headSpec (fw_ws yX10_paidBits cX10_paidBits 2 (some .int)) ({ frames := 2, cells := 0, slots := 0, locals := 42 } : Room)).room s m args below meth c H locs 0 0 (MQ below (fw_Q E o d (some (.int r)) μ') args s 0 0 (fw_A E)) (F0 m 13 ls [.int s1, .ref (fw_ad E 0 18)]) := by
    intro μ x1 s1 H locs ls h hP hS hl
    unfold f_X10_paidBits_J13 at h
    refine fw_put (ci := 8) (v := .int s1) (ty := .int) (C := RX10) (T := TX10) (N := 20) hx hb hU inU10 tyX10 tyX10_ok nmX10 hown hK hP hE hS (fw_V0 (f := 18) (by decide) (by decide)) rfl rfl 0 (by decide) (hU (Cond.fieldLink RX10 41 "LaundryServiceModel" "thrown" "I") m_1117) (fun _ h9 => h9) rfl (by decide +kernel) rfl rfl (Nat.le_of_ble_eq_true rfl) 0 s1 (by rw [fw_u_c]; rfl) dX10_paidBits_13 (fun H locs hP hS => ?_)
    obtain ⟨μ3, eμ3, h⟩ := fw_l_e h
    rw [← eμ3] at hP
    refine lv_aload_n hx hb dX10_paidBits_16 rfl (lv_at hl 0 rfl) ?_
    refine va_get (D := fw_D E) (ci := 8) (v := .int (μ3 0 18 0)) (C := RX10) (T := TX10) (N := 20) hx hb hU inU10 hown hK (fw_at hP (fw_V0 (f := 18) (by decide) (by decide))) 0 rfl rfl 0 (by decide) (hU (Cond.fieldLink RX10 41 "LaundryServiceModel" "thrown" "I") m_1117) (fun _ h9 => h9) rfl dX10_paidBits_17 ?_
    refine lv_if_le (tgt := 27) hx hb dX10_paidBits_20 (by decide) (fun c4 => ?_) (fun c4 => ?_)
    · rw [if_pos c4] at h
      refine lv_aload_n hx hb dX10_paidBits_27 rfl (lv_at hl 0 rfl) ?_
      refine va_get (D := fw_D E) (ci := 8) (v := .ref (fw_ad E 0 19)) (C := RX10) (T := TX10) (N := 20) hx hb hU inU10 hown hK (fw_at hP (fw_V0 (f := 18) (by decide) (by decide))) 0 rfl rfl 1 (by decide) (hU (Cond.fieldLink RX10 7 "LaundryServiceModel" "s" "[I") m_1118) (fun _ h9 => h9) rfl dX10_paidBits_28 ?_
      refine lv_bipush (v := (100 : Int32)) hx hb dX10_paidBits_31 (by decide) ?_
      refine lv_iload_n hx hb dX10_paidBits_33 rfl (lv_at hl 1 rfl) ?_
      refine lv_iadd hx hb dX10_paidBits_34 ?_
      obtain ⟨g5, h⟩ := fw_g_e h
      refine va_iald (D := fw_D E) hx hb hK (fw_at hP (fw_V0 (f := 19) (by decide) (by decide))) 0 0 rfl rfl (fw_in_e g5) dX10_paidBits_35 ?_
      exact W.iret (v := (μ3 0 19 ((100 : Int32) + x1).toNatClampNeg)) hx hb hr (fw_ew (mk := Value.int) h hP hS) hS.2.2 dX10_paidBits_36
    · rw [if_neg c4] at h
      refine lv_iconst (v := (0 : Int32)) hx hb dX10_paidBits_23 (by decide) ?_
      refine lv_goto (tgt := 36) hx hb dX10_paidBits_24 (by decide) ?_
      exact W.iret (v := (0 : Int32)) hx hb hr (fw_ew (mk := Value.int) h hP hS) hS.2.2 dX10_paidBits_36
  have EN : ∀ (H : Heap) (locs : List Loc) (ls : Array Slot), fw_P E o d μ H → va_S (fw_A E) s.heap H locs → lv_has ls 2 [(0, .ref (fw_ad E 0 18)), (1, .int x1)] → W p l e (headSpec (fw_ws yX10_paidBits cX10_paidBits 2 (some .int)) ({ frames := 2, cells := 0, slots := 0, locals := 42 } : Room)).room s m args below meth c H locs 0 0 (MQ below (fw_Q E o d (some (.int r)) μ') args s 0 0 (fw_A E)) (F0 m 0 ls []) := by
    intro H locs ls hP hS hl
    unfold f_X10_paidBits at h
    refine lv_aload_n hx hb dX10_paidBits_0 rfl (lv_at hl 0 rfl) ?_
    refine lv_iload_n hx hb dX10_paidBits_1 rfl (lv_at hl 1 rfl) ?_
    obtain ⟨r1, hc1, h⟩ := fw_b1_e h
    refine fw_ret (va_runS (As := [.int x1]) (rest := [.ref (fw_ad E 0 18)]) ⟨hx, hb, hml, hown, hU⟩ (k_X10_isClient l hE x1 hc1) (va_cwS 1 hU (fw_gS m_1194 m_1195 m_9 m_1196) rfl rfl rfl (by decide +kernel) ⟨(Nat.le_of_ble_eq_true rfl), (Nat.le_of_ble_eq_true rfl)⟩) ⟨fw_blind, fun U hU9 hW9 => ⟨rfl, fw_pre hK hP hSt hS U hU9 hW9⟩⟩ rfl rfl hl.1 rfl (lv_room (Nat.le_of_ble_eq_true rfl)) dX10_paidBits_2 ⟨Nat.zero_le _, Nat.zero_le _⟩) hS (fun H locs hP hS => ?_)
    refine lv_if_eq (tgt := 12) hx hb dX10_paidBits_5 (by decide) (fun c2 => ?_) (fun c2 => ?_)
    · rw [if_pos c2] at h
      refine lv_iconst (v := (1 : Int32)) hx hb dX10_paidBits_12 (by decide) ?_
      exact J13 μ x1 (1 : Int32) H locs ls h hP hS (lv_sub hl [0, 1] rfl)
    · rw [if_neg c2] at h
      refine lv_iconst (v := (0 : Int32)) hx hb dX10_paidBits_8 (by decide) ?_
      refine lv_goto (tgt := 13) hx hb dX10_paidBits_9 (by decide) ?_
      exact J13 μ x1 (0 : Int32) H locs ls h hP hS (lv_sub hl [0, 1] rfl)
  subst ha
  have hl := lv_entry ([.ref (fw_ad E 0 18), .int x1]) (n := 2) (Nat.le_of_ble_eq_true rfl)
  rw [lg_entry_eq]
  generalize (lg_sl ([.ref (fw_ad E 0 18), .int x1]) ++ List.replicate (2 - (lg_sl ([.ref (fw_ad E 0 18), .int x1])).length) Slot.unset).toArray = ls at hl ⊢
  exact EN s.heap [] ls hP va_S.rf hl
set_option maxHeartbeats 4000000 in
set_option maxRecDepth 100000 in
theorem k_X10_packed (l : Launch) {E : fw_E} {o : Int64} {d : UInt64} (hE : fw_ok E) {μ μ' : fw_M} (x1 : Int32) {r : Int64} (h : f_X10_packed μ x1 = some (μ', r)) : Met l yX10_packed (fw_ws yX10_packed cX10_packed 4 (some .long)) ({ frames := 2, cells := 0, slots := 0, locals := 43 } : Room) (va_Pc [.ref (fw_ad E 0 18), .int x1] (fw_Pre E o d μ)) (fw_Q E o d (some (.long r)) μ') 0 0 (fw_A E) := by
  refine Met.ofW (cc := cX10_packed) (maxL := 4) (ret := (some .long)) (by decide) rfl ?_
  intro p e s m args below meth c s₁ B hml hv
  obtain ⟨ha, hK, hP, hSt⟩ := hv
  have hx := B.exec
  have hb := B.bytes
  have hr := B.returns
  have hts := atoms_spec (ws := fw_ws yX10_packed cX10_packed 4 (some .long)) B.pre
  have hU : ∀ w ∈ fw_U, w.before args s = true := fun w hw => hts w (List.mem_cons_of_mem _ hw)
  have hown : s.vm.findClass RX10 = some m.cls := findClass_of_methodNamed B.named
  have hlocks := B.notSynchronized
  have J14 : ∀ (μ : fw_M) (x1 : Int32) (s1 : Int32) (H : Heap) (locs : List Loc) (ls : Array Slot), f_X10_packed_J14 μ x1 s1 = some (μ', r) → fw_P E o d μ H → va_S (fw_A E) s.heap H locs → lv_has ls 4 [(0, .ref (fw_ad E 0 18)), (1, .int x1)] → W p l e (headSpec (fw_ws yX10_packed cX10_packed 4 (some .long)) ({ frames := 2, cells := 0, slots := 0, locals := 43 } : Room)).room s m args below meth c H locs 0 0 (MQ below (fw_Q E o d (some (.long r)) μ') args s 0 0 (fw_A E)) (F0 m 14 ls [.int s1, .ref (fw_ad E 0 18)]) := by
    intro μ x1 s1 H locs ls h hP hS hl
    unfold f_X10_packed_J14 at h
    refine fw_put (ci := 8) (v := .int s1) (ty := .int) (C := RX10) (T := TX10) (N := 20) hx hb hU inU10 tyX10 tyX10_ok nmX10 hown hK hP hE hS (fw_V0 (f := 18) (by decide) (by decide)) rfl rfl 0 (by decide) (hU (Cond.fieldLink RX10 41 "LaundryServiceModel" "thrown" "I") m_1117) (fun _ h9 => h9) rfl (by decide +kernel) rfl rfl (Nat.le_of_ble_eq_true rfl) 0 s1 (by rw [fw_u_c]; rfl) dX10_packed_14 (fun H locs hP hS => ?_)
    obtain ⟨μ3, eμ3, h⟩ := fw_l_e h
    rw [← eμ3] at hP
    refine lv_aload_n hx hb dX10_packed_17 rfl (lv_at hl 0 rfl) ?_
    refine va_get (D := fw_D E) (ci := 8) (v := .int (μ3 0 18 0)) (C := RX10) (T := TX10) (N := 20) hx hb hU inU10 hown hK (fw_at hP (fw_V0 (f := 18) (by decide) (by decide))) 0 rfl rfl 0 (by decide) (hU (Cond.fieldLink RX10 41 "LaundryServiceModel" "thrown" "I") m_1117) (fun _ h9 => h9) rfl dX10_packed_18 ?_
    refine lv_if_le (tgt := 26) hx hb dX10_packed_21 (by decide) (fun c4 => ?_) (fun c4 => ?_)
    · rw [if_pos c4] at h
      refine lv_aload_n hx hb dX10_packed_26 rfl (lv_at hl 0 rfl) ?_
      refine lv_iload_n hx hb dX10_packed_27 rfl (lv_at hl 1 rfl) ?_
      refine lv_iconst (v := (3 : Int32)) hx hb dX10_packed_28 (by decide) ?_
      obtain ⟨r5, hc5, h⟩ := fw_b1_e h
      refine fw_ret (va_runV (As := [.int x1, .int (3 : Int32)]) (rest := []) ⟨hx, hb, hml, hown, hU⟩ (k_X10_of l hE x1 (3 : Int32) hc5) (cwV 2 hU (fw_gV m_1235 m_1237 ms_20 m_9 m_1238) rfl rfl rfl (by decide +kernel) ⟨(Nat.le_of_ble_eq_true rfl), (Nat.le_of_ble_eq_true rfl)⟩) ⟨fw_blind, fw_recv hK hP (fw_V0 (f := 18) (by decide) (by decide)) rfl rfl, fun U hU9 hW9 => ⟨rfl, fw_pre hK hP hSt hS U hU9 hW9⟩⟩ rfl rfl hl.1 rfl (lv_room (Nat.le_of_ble_eq_true rfl)) dX10_packed_29 ⟨Nat.zero_le _, Nat.zero_le _⟩) hS (fun H locs hP hS => ?_)
      refine lv_aload_n hx hb dX10_packed_32 rfl (lv_at hl 0 rfl) ?_
      refine lv_iload_n hx hb dX10_packed_33 rfl (lv_at hl 1 rfl) ?_
      refine lv_iconst (v := (2 : Int32)) hx hb dX10_packed_34 (by decide) ?_
      obtain ⟨r6, hc6, h⟩ := fw_b1_e h
      refine fw_ret (va_runV (As := [.int x1, .int (2 : Int32)]) (rest := [.int r5]) ⟨hx, hb, hml, hown, hU⟩ (k_X10_of l hE x1 (2 : Int32) hc6) (cwV 2 hU (fw_gV m_1235 m_1237 ms_20 m_9 m_1238) rfl rfl rfl (by decide +kernel) ⟨(Nat.le_of_ble_eq_true rfl), (Nat.le_of_ble_eq_true rfl)⟩) ⟨fw_blind, fw_recv hK hP (fw_V0 (f := 18) (by decide) (by decide)) rfl rfl, fun U hU9 hW9 => ⟨rfl, fw_pre hK hP hSt hS U hU9 hW9⟩⟩ rfl rfl hl.1 rfl (lv_room (Nat.le_of_ble_eq_true rfl)) dX10_packed_35 ⟨Nat.zero_le _, Nat.zero_le _⟩) hS (fun H locs hP hS => ?_)
      refine lv_bipush (v := (8 : Int32)) hx hb dX10_packed_38 (by decide) ?_
      refine lv_ishl hx hb dX10_packed_40 ?_
      refine lv_ior hx hb dX10_packed_41 ?_
      refine lv_aload_n hx hb dX10_packed_42 rfl (lv_at hl 0 rfl) ?_
      refine lv_iload_n hx hb dX10_packed_43 rfl (lv_at hl 1 rfl) ?_
      refine lv_iconst (v := (0 : Int32)) hx hb dX10_packed_44 (by decide) ?_
      obtain ⟨r7, hc7, h⟩ := fw_b1_e h
      refine fw_ret (va_runV (As := [.int x1, .int (0 : Int32)]) (rest := [.int (r5 ||| (r6 <<< ((8 : Int32) &&& (31 : Int32))))]) ⟨hx, hb, hml, hown, hU⟩ (k_X10_of l hE x1 (0 : Int32) hc7) (cwV 2 hU (fw_gV m_1235 m_1237 ms_20 m_9 m_1238) rfl rfl rfl (by decide +kernel) ⟨(Nat.le_of_ble_eq_true rfl), (Nat.le_of_ble_eq_true rfl)⟩) ⟨fw_blind, fw_recv hK hP (fw_V0 (f := 18) (by decide) (by decide)) rfl rfl, fun U hU9 hW9 => ⟨rfl, fw_pre hK hP hSt hS U hU9 hW9⟩⟩ rfl rfl hl.1 rfl (lv_room (Nat.le_of_ble_eq_true rfl)) dX10_packed_45 ⟨Nat.zero_le _, Nat.zero_le _⟩) hS (fun H locs hP hS => ?_)
      refine lv_bipush (v := (11 : Int32)) hx hb dX10_packed_48 (by decide) ?_
      refine lv_ishl hx hb dX10_packed_50 ?_
      refine lv_ior hx hb dX10_packed_51 ?_
      refine lv_aload_n hx hb dX10_packed_52 rfl (lv_at hl 0 rfl) ?_
      refine lv_iload_n hx hb dX10_packed_53 rfl (lv_at hl 1 rfl) ?_
      refine lv_iconst (v := (1 : Int32)) hx hb dX10_packed_54 (by decide) ?_
      obtain ⟨r8, hc8, h⟩ := fw_b1_e h
      refine fw_ret (va_runV (As := [.int x1, .int (1 : Int32)]) (rest := [.int ((r5 ||| (r6 <<< ((8 : Int32) &&& (31 : Int32)))) ||| (r7 <<< ((11 : Int32) &&& (31 : Int32))))]) ⟨hx, hb, hml, hown, hU⟩ (k_X10_of l hE x1 (1 : Int32) hc8) (cwV 2 hU (fw_gV m_1235 m_1237 ms_20 m_9 m_1238) rfl rfl rfl (by decide +kernel) ⟨(Nat.le_of_ble_eq_true rfl), (Nat.le_of_ble_eq_true rfl)⟩) ⟨fw_blind, fw_recv hK hP (fw_V0 (f := 18) (by decide) (by decide)) rfl rfl, fun U hU9 hW9 => ⟨rfl, fw_pre hK hP hSt hS U hU9 hW9⟩⟩ rfl rfl hl.1 rfl (lv_room (Nat.le_of_ble_eq_true rfl)) dX10_packed_55 ⟨Nat.zero_le _, Nat.zero_le _⟩) hS (fun H locs hP hS => ?_)
      refine lv_bipush (v := (13 : Int32)) hx hb dX10_packed_58 (by decide) ?_
      refine lv_ishl hx hb dX10_packed_60 ?_
      refine lv_ior hx hb dX10_packed_61 ?_
      refine lv_aload_n hx hb dX10_packed_62 rfl (lv_at hl 0 rfl) ?_
      refine lv_iload_n hx hb dX10_packed_63 rfl (lv_at hl 1 rfl) ?_
      refine lv_iconst (v := (4 : Int32)) hx hb dX10_packed_64 (by decide) ?_
      obtain ⟨r9, hc9, h⟩ := fw_b1_e h
      refine fw_ret (va_runV (As := [.int x1, .int (4 : Int32)]) (rest := [.int (((r5 ||| (r6 <<< ((8 : Int32) &&& (31 : Int32)))) ||| (r7 <<< ((11 : Int32) &&& (31 : Int32)))) ||| (r8 <<< ((13 : Int32) &&& (31 : Int32))))]) ⟨hx, hb, hml, hown, hU⟩ (k_X10_of l hE x1 (4 : Int32) hc9) (cwV 2 hU (fw_gV m_1235 m_1237 ms_20 m_9 m_1238) rfl rfl rfl (by decide +kernel) ⟨(Nat.le_of_ble_eq_true rfl), (Nat.le_of_ble_eq_true rfl)⟩) ⟨fw_blind, fw_recv hK hP (fw_V0 (f := 18) (by decide) (by decide)) rfl rfl, fun U hU9 hW9 => ⟨rfl, fw_pre hK hP hSt hS U hU9 hW9⟩⟩ rfl rfl hl.1 rfl (lv_room (Nat.le_of_ble_eq_true rfl)) dX10_packed_65 ⟨Nat.zero_le _, Nat.zero_le _⟩) hS (fun H locs hP hS => ?_)
      refine lv_bipush (v := (14 : Int32)) hx hb dX10_packed_68 (by decide) ?_
      refine lv_ishl hx hb dX10_packed_70 ?_
      refine lv_ior hx hb dX10_packed_71 ?_
      refine lv_i2l (v := ((((r5 ||| (r6 <<< ((8 : Int32) &&& (31 : Int32)))) ||| (r7 <<< ((11 : Int32) &&& (31 : Int32)))) ||| (r8 <<< ((13 : Int32) &&& (31 : Int32)))) ||| (r9 <<< ((14 : Int32) &&& (31 : Int32)))).toInt64) hx hb dX10_packed_72 rfl ?_
      obtain ⟨y10, ey10, h⟩ := fw_l_e h
      rw [← ey10]
      refine lv_lstore_n (lv' := [(2, .long y10), (0, .ref (fw_ad E 0 18)), (1, .int x1)]) hx hb dX10_packed_73 rfl hl (by decide) rfl (fun ls hl => ?_)
      refine lv_lload_n hx hb dX10_packed_74 rfl (lv_at hl 0 rfl) ?_
      refine lv_aload_n hx hb dX10_packed_75 rfl (lv_at hl 1 rfl) ?_
      refine lv_iload_n hx hb dX10_packed_76 rfl (lv_at hl 2 rfl) ?_
      refine lv_iconst (v := (5 : Int32)) hx hb dX10_packed_77 (by decide) ?_
      obtain ⟨r11, hc11, h⟩ := fw_b1_e h
      refine fw_ret (va_runV (As := [.int x1, .int (5 : Int32)]) (rest := [.long y10]) ⟨hx, hb, hml, hown, hU⟩ (k_X10_of l hE x1 (5 : Int32) hc11) (cwV 2 hU (fw_gV m_1235 m_1237 ms_20 m_9 m_1238) rfl rfl rfl (by decide +kernel) ⟨(Nat.le_of_ble_eq_true rfl), (Nat.le_of_ble_eq_true rfl)⟩) ⟨fw_blind, fw_recv hK hP (fw_V0 (f := 18) (by decide) (by decide)) rfl rfl, fun U hU9 hW9 => ⟨rfl, fw_pre hK hP hSt hS U hU9 hW9⟩⟩ rfl rfl hl.1 rfl (lv_room (Nat.le_of_ble_eq_true rfl)) dX10_packed_78 ⟨Nat.zero_le _, Nat.zero_le _⟩) hS (fun H locs hP hS => ?_)
      refine lv_i2l (v := r11.toInt64) hx hb dX10_packed_81 rfl ?_
      refine lv_bipush (v := (16 : Int32)) hx hb dX10_packed_82 (by decide) ?_
      refine lv_lshl (v := (r11.toInt64 <<< ((16 : Int32).toInt64 &&& (63 : Int64)))) hx hb dX10_packed_84 rfl ?_
      refine lv_lor hx hb dX10_packed_85 ?_
      exact W.lret (v := (y10 ||| (r11.toInt64 <<< ((16 : Int32).toInt64 &&& (63 : Int64))))) hx hb hr (fw_ew (mk := Value.long) h hP hS) hS.2.2 dX10_packed_86
    · rw [if_neg c4] at h
      refine lv_lconst (v := (0 : Int64)) hx hb dX10_packed_24 (by decide) ?_
      exact W.lret (v := (0 : Int64)) hx hb hr (fw_ew (mk := Value.long) h hP hS) hS.2.2 dX10_packed_25
  have EN : ∀ (H : Heap) (locs : List Loc) (ls : Array Slot), fw_P E o d μ H → va_S (fw_A E) s.heap H locs → lv_has ls 4 [(0, .ref (fw_ad E 0 18)), (1, .int x1)] → W p l e (headSpec (fw_ws yX10_packed cX10_packed 4 (some .long)) ({ frames := 2, cells := 0, slots := 0, locals := 43 } : Room)).room s m args below meth c H locs 0 0 (MQ below (fw_Q E o d (some (.long r)) μ') args s 0 0 (fw_A E)) (F0 m 0 ls []) := by
    intro H locs ls hP hS hl
    unfold f_X10_packed at h
    refine lv_aload_n hx hb dX10_packed_0 rfl (lv_at hl 0 rfl) ?_
    refine lv_aload_n hx hb dX10_packed_1 rfl (lv_at hl 0 rfl) ?_
    refine lv_iload_n hx hb dX10_packed_2 rfl (lv_at hl 1 rfl) ?_
    obtain ⟨r1, hc1, h⟩ := fw_b1_e h
    refine fw_ret (va_runV (As := [.int x1]) (rest := [.ref (fw_ad E 0 18)]) ⟨hx, hb, hml, hown, hU⟩ (k_X10_isGarment l hE x1 hc1) (cwV 1 hU (fw_gV m_1228 m_1230 ms_19 m_9 m_1231) rfl rfl rfl (by decide +kernel) ⟨(Nat.le_of_ble_eq_true rfl), (Nat.le_of_ble_eq_true rfl)⟩) ⟨fw_blind, fw_recv hK hP (fw_V0 (f := 18) (by decide) (by decide)) rfl rfl, fun U hU9 hW9 => ⟨rfl, fw_pre hK hP hSt hS U hU9 hW9⟩⟩ rfl rfl hl.1 rfl (lv_room (Nat.le_of_ble_eq_true rfl)) dX10_packed_3 ⟨Nat.zero_le _, Nat.zero_le _⟩) hS (fun H locs hP hS => ?_)
    refine lv_if_eq (tgt := 13) hx hb dX10_packed_6 (by decide) (fun c2 => ?_) (fun c2 => ?_)
    · rw [if_pos c2] at h
      refine lv_iconst (v := (1 : Int32)) hx hb dX10_packed_13 (by decide) ?_
      exact J14 μ x1 (1 : Int32) H locs ls h hP hS (lv_sub hl [0, 1] rfl)
    · rw [if_neg c2] at h
      refine lv_iconst (v := (0 : Int32)) hx hb dX10_packed_9 (by decide) ?_
      refine lv_goto (tgt := 14) hx hb dX10_packed_10 (by decide) ?_
      exact J14 μ x1 (0 : Int32) H locs ls h hP hS (lv_sub hl [0, 1] rfl)
  subst ha
  have hl := lv_entry ([.ref (fw_ad E 0 18), .int x1]) (n := 4) (Nat.le_of_ble_eq_true rfl)
  rw [lg_entry_eq]
  generalize (lg_sl ([.ref (fw_ad E 0 18), .int x1]) ++ List.replicate (4 - (lg_sl ([.ref (fw_ad E 0 18), .int x1])).length) Slot.unset).toArray = ls at hl ⊢
  exact EN s.heap [] ls hP va_S.rf hl
set_option maxHeartbeats 4000000 in
set_option maxRecDepth 100000 in
theorem k_X10_runCount (l : Launch) {E : fw_E} {o : Int64} {d : UInt64} (hE : fw_ok E) {μ μ' : fw_M} {r : Int32} (h : f_X10_runCount μ = some (μ', r)) : Met l yX10_runCount (fw_ws yX10_runCount cX10_runCount 1 (some .int)) ({ frames := 0, cells := 0, slots := 0, locals := 0 } : Room) (va_Pc [.ref (fw_ad E 0 18)] (fw_Pre E o d μ)) (fw_Q E o d (some (.int r)) μ') 0 0 (fw_A E) := by
  refine Met.ofW (cc := cX10_runCount) (maxL := 1) (ret := (some .int)) (by decide) rfl ?_
  intro p e s m args below meth c s₁ B hml hv
  obtain ⟨ha, hK, hP, hSt⟩ := hv
  have hx := B.exec
  have hb := B.bytes
  have hr := B.returns
  have hts := atoms_spec (ws := fw_ws yX10_runCount cX10_runCount 1 (some .int)) B.pre
  have hU : ∀ w ∈ fw_U, w.before args s = true := fun w hw => hts w (List.mem_cons_of_mem _ hw)
  have hown : s.vm.findClass RX10 = some m.cls := findClass_of_methodNamed B.named
  have hlocks := B.notSynchronized
  have EN : ∀ (H : Heap) (locs : List Loc) (ls : Array Slot), fw_P E o d μ H → va_S (fw_A E) s.heap H locs → lv_has ls 1 [(0, .ref (fw_ad E 0 18))] → W p l e (headSpec (fw_ws yX10_runCount cX10_runCount 1 (some .int)) ({ frames := 0, cells := 0, slots := 0, locals := 0 } : Room)).room s m args below meth c H locs 0 0 (MQ below (fw_Q E o d (some (.int r)) μ') args s 0 0 (fw_A E)) (F0 m 0 ls []) := by
    intro H locs ls hP hS hl
    unfold f_X10_runCount at h
    refine lv_aload_n hx hb dX10_runCount_0 rfl (lv_at hl 0 rfl) ?_
    refine lv_iconst (v := (0 : Int32)) hx hb dX10_runCount_1 (by decide) ?_
    refine fw_put (ci := 8) (v := .int (0 : Int32)) (ty := .int) (C := RX10) (T := TX10) (N := 20) hx hb hU inU10 tyX10 tyX10_ok nmX10 hown hK hP hE hS (fw_V0 (f := 18) (by decide) (by decide)) rfl rfl 0 (by decide) (hU (Cond.fieldLink RX10 41 "LaundryServiceModel" "thrown" "I") m_1117) (fun _ h9 => h9) rfl (by decide +kernel) rfl rfl (Nat.le_of_ble_eq_true rfl) 0 (0 : Int32) (by rw [fw_u_c]; rfl) dX10_runCount_2 (fun H locs hP hS => ?_)
    obtain ⟨μ1, eμ1, h⟩ := fw_l_e h
    rw [← eμ1] at hP
    refine lv_aload_n hx hb dX10_runCount_5 rfl (lv_at hl 0 rfl) ?_
    refine va_get (D := fw_D E) (ci := 8) (v := .ref (fw_ad E 0 19)) (C := RX10) (T := TX10) (N := 20) hx hb hU inU10 hown hK (fw_at hP (fw_V0 (f := 18) (by decide) (by decide))) 0 rfl rfl 1 (by decide) (hU (Cond.fieldLink RX10 7 "LaundryServiceModel" "s" "[I") m_1118) (fun _ h9 => h9) rfl dX10_runCount_6 ?_
    refine lv_iconst (v := (1 : Int32)) hx hb dX10_runCount_9 (by decide) ?_
    refine va_iald (D := fw_D E) hx hb hK (fw_at hP (fw_V0 (f := 19) (by decide) (by decide))) 0 0 rfl rfl (fw_in_e (n := 104) (by decide)) dX10_runCount_10 ?_
    exact W.iret (v := (μ1 0 19 (1 : Int32).toNatClampNeg)) hx hb hr (fw_ew (mk := Value.int) h hP hS) hS.2.2 dX10_runCount_11
  subst ha
  have hl := lv_entry ([.ref (fw_ad E 0 18)]) (n := 1) (Nat.le_of_ble_eq_true rfl)
  rw [lg_entry_eq]
  generalize (lg_sl ([.ref (fw_ad E 0 18)]) ++ List.replicate (1 - (lg_sl ([.ref (fw_ad E 0 18)])).length) Slot.unset).toArray = ls at hl ⊢
  exact EN s.heap [] ls hP va_S.rf hl
set_option maxHeartbeats 4000000 in
set_option maxRecDepth 100000 in
theorem k_X10_isHere (l : Launch) {E : fw_E} {o : Int64} {d : UInt64} (hE : fw_ok E) {μ : fw_M} (x1 : Int32) {r : Int32} (h : f_X10_isHere μ x1 = some r) : Met l yX10_isHere (fw_ws yX10_isHere cX10_isHere 2 (some .boolean)) ({ frames := 1, cells := 0, slots := 0, locals := 22 } : Room) (va_Pc [.ref (fw_ad E 0 18), .int x1] (fw_Pre E o d μ)) (fw_Q E o d (some (.int r)) μ) 0 0 (fw_A E) := by
  refine Met.ofW (cc := cX10_isHere) (maxL := 2) (ret := (some .boolean)) (by decide) rfl ?_
  intro p e s m args below meth c s₁ B hml hv
  obtain ⟨ha, hK, hP, hSt⟩ := hv
  have hx := B.exec
  have hb := B.bytes
  have hr := B.returns
  have hts := atoms_spec (ws := fw_ws yX10_isHere cX10_isHere 2 (some .boolean)) B.pre
  have hU : ∀ w ∈ fw_U, w.before args s = true := fun w hw => hts w (List.mem_cons_of_mem _ hw)
  have hown : s.vm.findClass RX10 = some m.cls := findClass_of_methodNamed B.named
  have hlocks := B.notSynchronized
  have EN : ∀ (H : Heap) (locs : List Loc) (ls : Array Slot), fw_P E o d μ H → va_S (fw_A E) s.heap H locs → lv_has ls 2 [(0, .ref (fw_ad E 0 18)), (1, .int x1)] → W p l e (headSpec (fw_ws yX10_isHere cX10_isHere 2 (some .boolean)) ({ frames := 1, cells := 0, slots := 0, locals := 22 } : Room)).room s m args below meth c H locs 0 0 (MQ below (fw_Q E o d (some (.int r)) μ) args s 0 0 (fw_A E)) (F0 m 0 ls []) := by
    intro H locs ls hP hS hl
    unfold f_X10_isHere at h
    refine lv_aload_n hx hb dX10_isHere_0 rfl (lv_at hl 0 rfl) ?_
    refine lv_iload_n hx hb dX10_isHere_1 rfl (lv_at hl 1 rfl) ?_
    refine lv_iconst (v := (4 : Int32)) hx hb dX10_isHere_2 (by decide) ?_
    obtain ⟨r1, hc1, h⟩ := fw_b1_e h
    refine fw_ret (va_runV (As := [.int x1, .int (4 : Int32)]) (rest := []) ⟨hx, hb, hml, hown, hU⟩ (k_X10_of l hE x1 (4 : Int32) hc1) (cwV 2 hU (fw_gV m_1235 m_1237 ms_20 m_9 m_1238) rfl rfl rfl (by decide +kernel) ⟨(Nat.le_of_ble_eq_true rfl), (Nat.le_of_ble_eq_true rfl)⟩) ⟨fw_blind, fw_recv hK hP (fw_V0 (f := 18) (by decide) (by decide)) rfl rfl, fun U hU9 hW9 => ⟨rfl, fw_pre hK hP hSt hS U hU9 hW9⟩⟩ rfl rfl hl.1 rfl (lv_room (Nat.le_of_ble_eq_true rfl)) dX10_isHere_3 ⟨Nat.zero_le _, Nat.zero_le _⟩) hS (fun H locs hP hS => ?_)
    refine lv_iconst (v := (3 : Int32)) hx hb dX10_isHere_6 (by decide) ?_
    refine lv_icmp_eq (tgt := 14) hx hb dX10_isHere_7 (by decide) (fun c2 => ?_) (fun c2 => ?_)
    · rw [if_pos c2] at h
      refine lv_iconst (v := (0 : Int32)) hx hb dX10_isHere_14 (by decide) ?_
      exact W.zret (v := (0 : Int32)) hx hb hr rfl (fw_er (mk := Value.int) h hP hS) hS.2.2 dX10_isHere_15
    · rw [if_neg c2] at h
      refine lv_iconst (v := (1 : Int32)) hx hb dX10_isHere_10 (by decide) ?_
      refine lv_goto (tgt := 15) hx hb dX10_isHere_11 (by decide) ?_
      exact W.zret (v := (1 : Int32)) hx hb hr rfl (fw_er (mk := Value.int) h hP hS) hS.2.2 dX10_isHere_15
  subst ha
  have hl := lv_entry ([.ref (fw_ad E 0 18), .int x1]) (n := 2) (Nat.le_of_ble_eq_true rfl)
  rw [lg_entry_eq]
  generalize (lg_sl ([.ref (fw_ad E 0 18), .int x1]) ++ List.replicate (2 - (lg_sl ([.ref (fw_ad E 0 18), .int x1])).length) Slot.unset).toArray = ls at hl ⊢
  exact EN s.heap [] ls hP va_S.rf hl
set_option maxHeartbeats 4000000 in
set_option maxRecDepth 100000 in
theorem k_X10_dirtiest (l : Launch) {E : fw_E} {o : Int64} {d : UInt64} (hE : fw_ok E) {μ μ' : fw_M} (x1 : Int32) {r : Int32} (h : f_X10_dirtiest μ x1 = some (μ', r)) : Met l yX10_dirtiest (fw_ws yX10_dirtiest cX10_dirtiest 6 (some .int)) ({ frames := 2, cells := 0, slots := 0, locals := 43 } : Room) (va_Pc [.ref (fw_ad E 0 18), .int x1] (fw_Pre E o d μ)) (fw_Q E o d (some (.int r)) μ') 0 0 (fw_A E) := by
  refine Met.ofW (cc := cX10_dirtiest) (maxL := 6) (ret := (some .int)) (by decide) rfl ?_
  intro p e s m args below meth c s₁ B hml hv
  obtain ⟨ha, hK, hP, hSt⟩ := hv
  have hx := B.exec
  have hb := B.bytes
  have hr := B.returns
  have hts := atoms_spec (ws := fw_ws yX10_dirtiest cX10_dirtiest 6 (some .int)) B.pre
  have hU : ∀ w ∈ fw_U, w.before args s = true := fun w hw => hts w (List.mem_cons_of_mem _ hw)
  have hown : s.vm.findClass RX10 = some m.cls := findClass_of_methodNamed B.named
  have hlocks := B.notSynchronized
  have L7 : ∀ (n : Nat) (μ : fw_M) (x1 : Int32) (x2 : Int32) (H : Heap) (locs : List Loc) (ls : Array Slot), f_X10_dirtiest_L7 n μ x1 x2 = some (μ', r) → fw_P E o d μ H → va_S (fw_A E) s.heap H locs → lv_has ls 6 [(0, .ref (fw_ad E 0 18)), (1, .int x1), (2, .int x2)] → W p l e (headSpec (fw_ws yX10_dirtiest cX10_dirtiest 6 (some .int)) ({ frames := 2, cells := 0, slots := 0, locals := 43 } : Room)).room s m args below meth c H locs 0 0 (MQ below (fw_Q E o d (some (.int r)) μ') args s 0 0 (fw_A E)) (F0 m 7 ls []) := by
    intro n7
    induction n7 with
    | zero => intro μ x1 x2 H locs ls h; rw [f_X10_dirtiest_L7] at h; cases h
    | succ n7 ih7 =>
      have L33 : ∀ (n : Nat) (μ : fw_M) (x1 : Int32) (x2 : Int32) (x3 : Int32) (x4 : Int32) (H : Heap) (locs : List Loc) (ls : Array Slot), f_X10_dirtiest_L33 (f_X10_dirtiest_L7 n7) n μ x1 x2 x3 x4 = some (μ', r) → fw_P E o d μ H → va_S (fw_A E) s.heap H locs → lv_has ls 6 [(0, .ref (fw_ad E 0 18)), (1, .int x1), (2, .int x2), (3, .int x3), (4, .int x4)] → W p l e (headSpec (fw_ws yX10_dirtiest cX10_dirtiest 6 (some .int)) ({ frames := 2, cells := 0, slots := 0, locals := 43 } : Room)).room s m args below meth c H locs 0 0 (MQ below (fw_Q E o d (some (.int r)) μ') args s 0 0 (fw_A E)) (F0 m 33 ls []) := by
        intro n33
        induction n33 with
        | zero => intro μ x1 x2 x3 x4 H locs ls h; rw [f_X10_dirtiest_L33] at h; cases h
        | succ n33 ih33 =>
          intro μ x1 x2 x3 x4 H locs ls h hP hS hl
          rw [f_X10_dirtiest_L33] at h
          refine lv_iload hx hb dX10_dirtiest_33 (lv_at hl 4 rfl) ?_
          refine lv_aload_n hx hb dX10_dirtiest_35 rfl (lv_at hl 0 rfl) ?_
          refine va_get (D := fw_D E) (ci := 8) (v := .ref (fw_ad E 0 19)) (C := RX10) (T := TX10) (N := 20) hx hb hU inU10 hown hK (fw_at hP (fw_V0 (f := 18) (by decide) (by decide))) 0 rfl rfl 1 (by decide) (hU (Cond.fieldLink RX10 7 "LaundryServiceModel" "s" "[I") m_1118) (fun _ h9 => h9) rfl dX10_dirtiest_36 ?_
          refine lv_iconst (v := (0 : Int32)) hx hb dX10_dirtiest_39 (by decide) ?_
          refine va_iald (D := fw_D E) hx hb hK (fw_at hP (fw_V0 (f := 19) (by decide) (by decide))) 0 0 rfl rfl (fw_in_e (n := 104) (by decide)) dX10_dirtiest_40 ?_
          refine lv_icmp_ge (tgt := 105) hx hb dX10_dirtiest_41 (by decide) (fun c6 => ?_) (fun c6 => ?_)
          · rw [if_pos c6] at h
            refine lv_iload_n hx hb dX10_dirtiest_105 rfl (lv_at hl 3 rfl) ?_
            refine lv_iload_n hx hb dX10_dirtiest_106 rfl (lv_at hl 1 rfl) ?_
            refine lv_icmp_ne (tgt := 112) hx hb dX10_dirtiest_107 (by decide) (fun c7 => ?_) (fun c7 => ?_)
            · rw [if_neg c7] at h
              refine lv_iinc (v := (x2 + (1 : Int32))) (lv' := [(2, .int (x2 + (1 : Int32))), (0, .ref (fw_ad E 0 18)), (1, .int x1), (3, .int x3), (4, .int x4)]) hx hb dX10_dirtiest_112 hl (k := 2) rfl rfl (by decide) rfl (fun ls hl => ?_)
              refine lv_goto (tgt := 7) hx hb dX10_dirtiest_115 (by decide) ?_
              exact ih7 μ x1 (x2 + (1 : Int32)) H locs ls h hP hS (lv_sub hl [1, 2, 0] rfl)
            · rw [if_pos c7] at h
              refine lv_iload_n hx hb dX10_dirtiest_110 rfl (lv_at hl 2 rfl) ?_
              exact W.iret (v := x2) hx hb hr (fw_ew (mk := Value.int) h hP hS) hS.2.2 dX10_dirtiest_111
          · rw [if_neg c6] at h
            refine lv_aload_n hx hb dX10_dirtiest_44 rfl (lv_at hl 0 rfl) ?_
            refine lv_iload hx hb dX10_dirtiest_45 (lv_at hl 4 rfl) ?_
            refine lv_iconst (v := (3 : Int32)) hx hb dX10_dirtiest_47 (by decide) ?_
            obtain ⟨r8, hc8, h⟩ := fw_b1_e h
            refine fw_ret (va_runV (As := [.int x4, .int (3 : Int32)]) (rest := []) ⟨hx, hb, hml, hown, hU⟩ (k_X10_of l hE x4 (3 : Int32) hc8) (cwV 2 hU (fw_gV m_1235 m_1237 ms_20 m_9 m_1238) rfl rfl rfl (by decide +kernel) ⟨(Nat.le_of_ble_eq_true rfl), (Nat.le_of_ble_eq_true rfl)⟩) ⟨fw_blind, fw_recv hK hP (fw_V0 (f := 18) (by decide) (by decide)) rfl rfl, fun U hU9 hW9 => ⟨rfl, fw_pre hK hP hSt hS U hU9 hW9⟩⟩ rfl rfl hl.1 rfl (lv_room (Nat.le_of_ble_eq_true rfl)) dX10_dirtiest_48 ⟨Nat.zero_le _, Nat.zero_le _⟩) hS (fun H locs hP hS => ?_)
            obtain ⟨r9, hc9, h⟩ := fw_b1_e h
            refine fw_ret (va_runS (As := [.int r8]) (rest := []) ⟨hx, hb, hml, hown, hU⟩ (k_X10_bits l hE r8 hc9) (va_cwS 1 hU (fw_gS m_1354 m_1355 m_9 m_1356) rfl rfl rfl (by decide +kernel) ⟨(Nat.le_of_ble_eq_true rfl), (Nat.le_of_ble_eq_true rfl)⟩) ⟨fw_blind, fun U hU9 hW9 => ⟨rfl, fw_pre hK hP hSt hS U hU9 hW9⟩⟩ rfl rfl hl.1 rfl (lv_room (Nat.le_of_ble_eq_true rfl)) dX10_dirtiest_51 ⟨Nat.zero_le _, Nat.zero_le _⟩) hS (fun H locs hP hS => ?_)
            refine lv_aload_n hx hb dX10_dirtiest_54 rfl (lv_at hl 0 rfl) ?_
            refine lv_iload_n hx hb dX10_dirtiest_55 rfl (lv_at hl 2 rfl) ?_
            refine lv_iconst (v := (3 : Int32)) hx hb dX10_dirtiest_56 (by decide) ?_
            obtain ⟨r10, hc10, h⟩ := fw_b1_e h
            refine fw_ret (va_runV (As := [.int x2, .int (3 : Int32)]) (rest := [.int r9]) ⟨hx, hb, hml, hown, hU⟩ (k_X10_of l hE x2 (3 : Int32) hc10) (cwV 2 hU (fw_gV m_1235 m_1237 ms_20 m_9 m_1238) rfl rfl rfl (by decide +kernel) ⟨(Nat.le_of_ble_eq_true rfl), (Nat.le_of_ble_eq_true rfl)⟩) ⟨fw_blind, fw_recv hK hP (fw_V0 (f := 18) (by decide) (by decide)) rfl rfl, fun U hU9 hW9 => ⟨rfl, fw_pre hK hP hSt hS U hU9 hW9⟩⟩ rfl rfl hl.1 rfl (lv_room (Nat.le_of_ble_eq_true rfl)) dX10_dirtiest_57 ⟨Nat.zero_le _, Nat.zero_le _⟩) hS (fun H locs hP hS => ?_)
            obtain ⟨r11, hc11, h⟩ := fw_b1_e h
            refine fw_ret (va_runS (As := [.int r10]) (rest := [.int r9]) ⟨hx, hb, hml, hown, hU⟩ (k_X10_bits l hE r10 hc11) (va_cwS 1 hU (fw_gS m_1354 m_1355 m_9 m_1356) rfl rfl rfl (by decide +kernel) ⟨(Nat.le_of_ble_eq_true rfl), (Nat.le_of_ble_eq_true rfl)⟩) ⟨fw_blind, fun U hU9 hW9 => ⟨rfl, fw_pre hK hP hSt hS U hU9 hW9⟩⟩ rfl rfl hl.1 rfl (lv_room (Nat.le_of_ble_eq_true rfl)) dX10_dirtiest_60 ⟨Nat.zero_le _, Nat.zero_le _⟩) hS (fun H locs hP hS => ?_)
            refine lv_isub hx hb dX10_dirtiest_63 ?_
            refine lv_istore (lv' := [(5, .int (r9 - r11)), (0, .ref (fw_ad E 0 18)), (1, .int x1), (2, .int x2), (3, .int x3), (4, .int x4)]) hx hb dX10_dirtiest_64 hl (by decide) rfl (fun ls hl => ?_)
            refine lv_iload_n hx hb dX10_dirtiest_66 rfl (lv_at hl 4 rfl) ?_
            refine lv_aload_n hx hb dX10_dirtiest_67 rfl (lv_at hl 1 rfl) ?_
            refine lv_iload hx hb dX10_dirtiest_68 (lv_at hl 5 rfl) ?_
            obtain ⟨r12, hc12, h⟩ := fw_b1_e h
            refine fw_ret (va_runV (As := [.int x4]) (rest := [.int x3]) ⟨hx, hb, hml, hown, hU⟩ (k_X10_isHere l hE x4 hc12) (cwV 1 hU (fw_gV m_1461 m_1463 ms_39 m_9 m_1464) rfl rfl rfl (by decide +kernel) ⟨(Nat.le_of_ble_eq_true rfl), (Nat.le_of_ble_eq_true rfl)⟩) ⟨fw_blind, fw_recv hK hP (fw_V0 (f := 18) (by decide) (by decide)) rfl rfl, fun U hU9 hW9 => ⟨rfl, fw_pre hK hP hSt hS U hU9 hW9⟩⟩ rfl rfl hl.1 rfl (lv_room (Nat.le_of_ble_eq_true rfl)) dX10_dirtiest_70 ⟨Nat.zero_le _, Nat.zero_le _⟩) hS (fun H locs hP hS => ?_)
            refine lv_if_eq (tgt := 96) hx hb dX10_dirtiest_73 (by decide) (fun c13 => ?_) (fun c13 => ?_)
            · rw [if_pos c13] at h
              refine lv_iconst (v := (0 : Int32)) hx hb dX10_dirtiest_96 (by decide) ?_
              refine lv_iadd hx hb dX10_dirtiest_97 ?_
              refine lv_istore_n (lv' := [(3, .int (x3 + (0 : Int32))), (5, .int (r9 - r11)), (0, .ref (fw_ad E 0 18)), (1, .int x1), (2, .int x2), (4, .int x4)]) hx hb dX10_dirtiest_98 rfl hl (by decide) rfl (fun ls hl => ?_)
              refine lv_iinc (v := (x4 + (1 : Int32))) (lv' := [(4, .int (x4 + (1 : Int32))), (3, .int (x3 + (0 : Int32))), (5, .int (r9 - r11)), (0, .ref (fw_ad E 0 18)), (1, .int x1), (2, .int x2)]) hx hb dX10_dirtiest_99 hl (k := 5) rfl rfl (by decide) rfl (fun ls hl => ?_)
              refine lv_goto (tgt := 33) hx hb dX10_dirtiest_102 (by decide) ?_
              exact ih33 μ x1 x2 (x3 + (0 : Int32)) (x4 + (1 : Int32)) H locs ls h hP hS (lv_sub hl [3, 4, 5, 1, 0] rfl)
            · rw [if_neg c13] at h
              refine lv_iload hx hb dX10_dirtiest_76 (lv_at hl 0 rfl) ?_
              refine lv_if_gt (tgt := 92) hx hb dX10_dirtiest_78 (by decide) (fun c14 => ?_) (fun c14 => ?_)
              · rw [if_pos c14] at h
                refine lv_iconst (v := (1 : Int32)) hx hb dX10_dirtiest_92 (by decide) ?_
                refine lv_goto (tgt := 97) hx hb dX10_dirtiest_93 (by decide) ?_
                refine lv_iadd hx hb dX10_dirtiest_97 ?_
                refine lv_istore_n (lv' := [(3, .int (x3 + (1 : Int32))), (5, .int (r9 - r11)), (0, .ref (fw_ad E 0 18)), (1, .int x1), (2, .int x2), (4, .int x4)]) hx hb dX10_dirtiest_98 rfl hl (by decide) rfl (fun ls hl => ?_)
                refine lv_iinc (v := (x4 + (1 : Int32))) (lv' := [(4, .int (x4 + (1 : Int32))), (3, .int (x3 + (1 : Int32))), (5, .int (r9 - r11)), (0, .ref (fw_ad E 0 18)), (1, .int x1), (2, .int x2)]) hx hb dX10_dirtiest_99 hl (k := 5) rfl rfl (by decide) rfl (fun ls hl => ?_)
                refine lv_goto (tgt := 33) hx hb dX10_dirtiest_102 (by decide) ?_
                exact ih33 μ x1 x2 (x3 + (1 : Int32)) (x4 + (1 : Int32)) H locs ls h hP hS (lv_sub hl [3, 4, 5, 1, 0] rfl)
              · rw [if_neg c14] at h
                refine lv_iload hx hb dX10_dirtiest_81 (lv_at hl 0 rfl) ?_
                refine lv_if_ne (tgt := 96) hx hb dX10_dirtiest_83 (by decide) (fun c15 => ?_) (fun c15 => ?_)
                · rw [if_neg c15] at h
                  refine lv_iconst (v := (0 : Int32)) hx hb dX10_dirtiest_96 (by decide) ?_
                  refine lv_iadd hx hb dX10_dirtiest_97 ?_
                  refine lv_istore_n (lv' := [(3, .int (x3 + (0 : Int32))), (5, .int (r9 - r11)), (0, .ref (fw_ad E 0 18)), (1, .int x1), (2, .int x2), (4, .int x4)]) hx hb dX10_dirtiest_98 rfl hl (by decide) rfl (fun ls hl => ?_)
                  refine lv_iinc (v := (x4 + (1 : Int32))) (lv' := [(4, .int (x4 + (1 : Int32))), (3, .int (x3 + (0 : Int32))), (5, .int (r9 - r11)), (0, .ref (fw_ad E 0 18)), (1, .int x1), (2, .int x2)]) hx hb dX10_dirtiest_99 hl (k := 5) rfl rfl (by decide) rfl (fun ls hl => ?_)
                  refine lv_goto (tgt := 33) hx hb dX10_dirtiest_102 (by decide) ?_
                  exact ih33 μ x1 x2 (x3 + (0 : Int32)) (x4 + (1 : Int32)) H locs ls h hP hS (lv_sub hl [3, 4, 5, 1, 0] rfl)
                · rw [if_pos c15] at h
                  refine lv_iload hx hb dX10_dirtiest_86 (lv_at hl 5 rfl) ?_
                  refine lv_iload_n hx hb dX10_dirtiest_88 rfl (lv_at hl 3 rfl) ?_
                  refine lv_icmp_ge (tgt := 96) hx hb dX10_dirtiest_89 (by decide) (fun c16 => ?_) (fun c16 => ?_)
                  · rw [if_pos c16] at h
                    refine lv_iconst (v := (0 : Int32)) hx hb dX10_dirtiest_96 (by decide) ?_
                    refine lv_iadd hx hb dX10_dirtiest_97 ?_
                    refine lv_istore_n (lv' := [(3, .int (x3 + (0 : Int32))), (5, .int (r9 - r11)), (0, .ref (fw_ad E 0 18)), (1, .int x1), (2, .int x2), (4, .int x4)]) hx hb dX10_dirtiest_98 rfl hl (by decide) rfl (fun ls hl => ?_)
                    refine lv_iinc (v := (x4 + (1 : Int32))) (lv' := [(4, .int (x4 + (1 : Int32))), (3, .int (x3 + (0 : Int32))), (5, .int (r9 - r11)), (0, .ref (fw_ad E 0 18)), (1, .int x1), (2, .int x2)]) hx hb dX10_dirtiest_99 hl (k := 5) rfl rfl (by decide) rfl (fun ls hl => ?_)
                    refine lv_goto (tgt := 33) hx hb dX10_dirtiest_102 (by decide) ?_
                    exact ih33 μ x1 x2 (x3 + (0 : Int32)) (x4 + (1 : Int32)) H locs ls h hP hS (lv_sub hl [3, 4, 5, 1, 0] rfl)
                  · rw [if_neg c16] at h
                    refine lv_iconst (v := (1 : Int32)) hx hb dX10_dirtiest_92 (by decide) ?_
                    refine lv_goto (tgt := 97) hx hb dX10_dirtiest_93 (by decide) ?_
                    refine lv_iadd hx hb dX10_dirtiest_97 ?_
                    refine lv_istore_n (lv' := [(3, .int (x3 + (1 : Int32))), (5, .int (r9 - r11)), (0, .ref (fw_ad E 0 18)), (1, .int x1), (2, .int x2), (4, .int x4)]) hx hb dX10_dirtiest_98 rfl hl (by decide) rfl (fun ls hl => ?_)
                    refine lv_iinc (v := (x4 + (1 : Int32))) (lv' := [(4, .int (x4 + (1 : Int32))), (3, .int (x3 + (1 : Int32))), (5, .int (r9 - r11)), (0, .ref (fw_ad E 0 18)), (1, .int x1), (2, .int x2)]) hx hb dX10_dirtiest_99 hl (k := 5) rfl rfl (by decide) rfl (fun ls hl => ?_)
                    refine lv_goto (tgt := 33) hx hb dX10_dirtiest_102 (by decide) ?_
                    exact ih33 μ x1 x2 (x3 + (1 : Int32)) (x4 + (1 : Int32)) H locs ls h hP hS (lv_sub hl [3, 4, 5, 1, 0] rfl)
      intro μ x1 x2 H locs ls h hP hS hl
      rw [f_X10_dirtiest_L7] at h
      refine lv_iload_n hx hb dX10_dirtiest_7 rfl (lv_at hl 2 rfl) ?_
      refine lv_aload_n hx hb dX10_dirtiest_8 rfl (lv_at hl 0 rfl) ?_
      refine va_get (D := fw_D E) (ci := 8) (v := .ref (fw_ad E 0 19)) (C := RX10) (T := TX10) (N := 20) hx hb hU inU10 hown hK (fw_at hP (fw_V0 (f := 18) (by decide) (by decide))) 0 rfl rfl 1 (by decide) (hU (Cond.fieldLink RX10 7 "LaundryServiceModel" "s" "[I") m_1118) (fun _ h9 => h9) rfl dX10_dirtiest_9 ?_
      refine lv_iconst (v := (0 : Int32)) hx hb dX10_dirtiest_12 (by decide) ?_
      refine va_iald (D := fw_D E) hx hb hK (fw_at hP (fw_V0 (f := 19) (by decide) (by decide))) 0 0 rfl rfl (fw_in_e (n := 104) (by decide)) dX10_dirtiest_13 ?_
      refine lv_icmp_ge (tgt := 118) hx hb dX10_dirtiest_14 (by decide) (fun c2 => ?_) (fun c2 => ?_)
      · rw [if_pos c2] at h
        refine lv_aload_n hx hb dX10_dirtiest_118 rfl (lv_at hl 0 rfl) ?_
        refine lv_iconst (v := (1 : Int32)) hx hb dX10_dirtiest_119 (by decide) ?_
        obtain ⟨μ3, r3, hc3, h⟩ := fw_b2_e h
        refine fw_ret (va_runV (As := [.int (1 : Int32)]) (rest := []) ⟨hx, hb, hml, hown, hU⟩ (k_X10_fails l hE (1 : Int32) hc3) (cwV 1 hU (fw_gV m_1216 m_1218 ms_17 m_9 m_1219) rfl rfl rfl (by decide +kernel) ⟨(Nat.le_of_ble_eq_true rfl), (Nat.le_of_ble_eq_true rfl)⟩) ⟨fw_blind, fw_recv hK hP (fw_V0 (f := 18) (by decide) (by decide)) rfl rfl, fun U hU9 hW9 => ⟨rfl, fw_pre hK hP hSt hS U hU9 hW9⟩⟩ rfl rfl hl.1 rfl (lv_room (Nat.le_of_ble_eq_true rfl)) dX10_dirtiest_120 ⟨Nat.zero_le _, Nat.zero_le _⟩) hS (fun H locs hP hS => ?_)
        exact W.iret (v := r3) hx hb hr (fw_ew (mk := Value.int) h hP hS) hS.2.2 dX10_dirtiest_123
      · rw [if_neg c2] at h
        refine lv_aload_n hx hb dX10_dirtiest_17 rfl (lv_at hl 0 rfl) ?_
        refine lv_iload_n hx hb dX10_dirtiest_18 rfl (lv_at hl 2 rfl) ?_
        obtain ⟨r4, hc4, h⟩ := fw_b1_e h
        refine fw_ret (va_runV (As := [.int x2]) (rest := []) ⟨hx, hb, hml, hown, hU⟩ (k_X10_isHere l hE x2 hc4) (cwV 1 hU (fw_gV m_1461 m_1463 ms_39 m_9 m_1464) rfl rfl rfl (by decide +kernel) ⟨(Nat.le_of_ble_eq_true rfl), (Nat.le_of_ble_eq_true rfl)⟩) ⟨fw_blind, fw_recv hK hP (fw_V0 (f := 18) (by decide) (by decide)) rfl rfl, fun U hU9 hW9 => ⟨rfl, fw_pre hK hP hSt hS U hU9 hW9⟩⟩ rfl rfl hl.1 rfl (lv_room (Nat.le_of_ble_eq_true rfl)) dX10_dirtiest_19 ⟨Nat.zero_le _, Nat.zero_le _⟩) hS (fun H locs hP hS => ?_)
        refine lv_if_ne (tgt := 28) hx hb dX10_dirtiest_22 (by decide) (fun c5 => ?_) (fun c5 => ?_)
        · rw [if_neg c5] at h
          refine lv_iconst (v := (0 : Int32)) hx hb dX10_dirtiest_28 (by decide) ?_
          refine lv_istore_n (lv' := [(3, .int (0 : Int32)), (0, .ref (fw_ad E 0 18)), (1, .int x1), (2, .int x2)]) hx hb dX10_dirtiest_29 rfl hl (by decide) rfl (fun ls hl => ?_)
          refine lv_iconst (v := (0 : Int32)) hx hb dX10_dirtiest_30 (by decide) ?_
          refine lv_istore (lv' := [(4, .int (0 : Int32)), (3, .int (0 : Int32)), (0, .ref (fw_ad E 0 18)), (1, .int x1), (2, .int x2)]) hx hb dX10_dirtiest_31 hl (by decide) rfl (fun ls hl => ?_)
          exact L33 1000 μ x1 x2 (0 : Int32) (0 : Int32) H locs ls h hP hS (lv_sub hl [2, 3, 4, 1, 0] rfl)
        · rw [if_pos c5] at h
          refine lv_goto (tgt := 112) hx hb dX10_dirtiest_25 (by decide) ?_
          refine lv_iinc (v := (x2 + (1 : Int32))) (lv' := [(2, .int (x2 + (1 : Int32))), (0, .ref (fw_ad E 0 18)), (1, .int x1)]) hx hb dX10_dirtiest_112 hl (k := 2) rfl rfl (by decide) rfl (fun ls hl => ?_)
          refine lv_goto (tgt := 7) hx hb dX10_dirtiest_115 (by decide) ?_
          exact ih7 μ x1 (x2 + (1 : Int32)) H locs ls h hP hS (lv_sub hl [1, 2, 0] rfl)
  have EN : ∀ (H : Heap) (locs : List Loc) (ls : Array Slot), fw_P E o d μ H → va_S (fw_A E) s.heap H locs → lv_has ls 6 [(0, .ref (fw_ad E 0 18)), (1, .int x1)] → W p l e (headSpec (fw_ws yX10_dirtiest cX10_dirtiest 6 (some .int)) ({ frames := 2, cells := 0, slots := 0, locals := 43 } : Room)).room s m args below meth c H locs 0 0 (MQ below (fw_Q E o d (some (.int r)) μ') args s 0 0 (fw_A E)) (F0 m 0 ls []) := by
    intro H locs ls hP hS hl
    unfold f_X10_dirtiest at h
    refine lv_aload_n hx hb dX10_dirtiest_0 rfl (lv_at hl 0 rfl) ?_
    refine lv_iconst (v := (0 : Int32)) hx hb dX10_dirtiest_1 (by decide) ?_
    refine fw_put (ci := 8) (v := .int (0 : Int32)) (ty := .int) (C := RX10) (T := TX10) (N := 20) hx hb hU inU10 tyX10 tyX10_ok nmX10 hown hK hP hE hS (fw_V0 (f := 18) (by decide) (by decide)) rfl rfl 0 (by decide) (hU (Cond.fieldLink RX10 41 "LaundryServiceModel" "thrown" "I") m_1117) (fun _ h9 => h9) rfl (by decide +kernel) rfl rfl (Nat.le_of_ble_eq_true rfl) 0 (0 : Int32) (by rw [fw_u_c]; rfl) dX10_dirtiest_2 (fun H locs hP hS => ?_)
    obtain ⟨μ1, eμ1, h⟩ := fw_l_e h
    rw [← eμ1] at hP
    refine lv_iconst (v := (0 : Int32)) hx hb dX10_dirtiest_5 (by decide) ?_
    refine lv_istore_n (lv' := [(2, .int (0 : Int32)), (0, .ref (fw_ad E 0 18)), (1, .int x1)]) hx hb dX10_dirtiest_6 rfl hl (by decide) rfl (fun ls hl => ?_)
    exact L7 1000 μ1 x1 (0 : Int32) H locs ls h hP hS (lv_sub hl [1, 2, 0] rfl)
  subst ha
  have hl := lv_entry ([.ref (fw_ad E 0 18), .int x1]) (n := 6) (Nat.le_of_ble_eq_true rfl)
  rw [lg_entry_eq]
  generalize (lg_sl ([.ref (fw_ad E 0 18), .int x1]) ++ List.replicate (6 - (lg_sl ([.ref (fw_ad E 0 18), .int x1])).length) Slot.unset).toArray = ls at hl ⊢
  exact EN s.heap [] ls hP va_S.rf hl
set_option maxHeartbeats 4000000 in
set_option maxRecDepth 100000 in
theorem k_X10_spender (l : Launch) {E : fw_E} {o : Int64} {d : UInt64} (hE : fw_ok E) {μ μ' : fw_M} (x1 : Int32) {r : Int32} (h : f_X10_spender μ x1 = some (μ', r)) : Met l yX10_spender (fw_ws yX10_spender cX10_spender 5 (some .int)) ({ frames := 2, cells := 0, slots := 0, locals := 61 } : Room) (va_Pc [.ref (fw_ad E 0 18), .int x1] (fw_Pre E o d μ)) (fw_Q E o d (some (.int r)) μ') 0 0 (fw_A E) := by
  refine Met.ofW (cc := cX10_spender) (maxL := 5) (ret := (some .int)) (by decide) rfl ?_
  intro p e s m args below meth c s₁ B hml hv
  obtain ⟨ha, hK, hP, hSt⟩ := hv
  have hx := B.exec
  have hb := B.bytes
  have hr := B.returns
  have hts := atoms_spec (ws := fw_ws yX10_spender cX10_spender 5 (some .int)) B.pre
  have hU : ∀ w ∈ fw_U, w.before args s = true := fun w hw => hts w (List.mem_cons_of_mem _ hw)
  have hown : s.vm.findClass RX10 = some m.cls := findClass_of_methodNamed B.named
  have hlocks := B.notSynchronized
  have L7 : ∀ (n : Nat) (μ : fw_M) (x1 : Int32) (x2 : Int32) (H : Heap) (locs : List Loc) (ls : Array Slot), f_X10_spender_L7 n μ x1 x2 = some (μ', r) → fw_P E o d μ H → va_S (fw_A E) s.heap H locs → lv_has ls 5 [(0, .ref (fw_ad E 0 18)), (1, .int x1), (2, .int x2)] → W p l e (headSpec (fw_ws yX10_spender cX10_spender 5 (some .int)) ({ frames := 2, cells := 0, slots := 0, locals := 61 } : Room)).room s m args below meth c H locs 0 0 (MQ below (fw_Q E o d (some (.int r)) μ') args s 0 0 (fw_A E)) (F0 m 7 ls []) := by
    intro n7
    induction n7 with
    | zero => intro μ x1 x2 H locs ls h; rw [f_X10_spender_L7] at h; cases h
    | succ n7 ih7 =>
      have L17 : ∀ (n : Nat) (μ : fw_M) (x1 : Int32) (x2 : Int32) (x3 : Int32) (x4 : Int32) (H : Heap) (locs : List Loc) (ls : Array Slot), f_X10_spender_L17 (f_X10_spender_L7 n7) n μ x1 x2 x3 x4 = some (μ', r) → fw_P E o d μ H → va_S (fw_A E) s.heap H locs → lv_has ls 5 [(0, .ref (fw_ad E 0 18)), (1, .int x1), (2, .int x2), (3, .int x3), (4, .int x4)] → W p l e (headSpec (fw_ws yX10_spender cX10_spender 5 (some .int)) ({ frames := 2, cells := 0, slots := 0, locals := 61 } : Room)).room s m args below meth c H locs 0 0 (MQ below (fw_Q E o d (some (.int r)) μ') args s 0 0 (fw_A E)) (F0 m 17 ls []) := by
        intro n17
        induction n17 with
        | zero => intro μ x1 x2 x3 x4 H locs ls h; rw [f_X10_spender_L17] at h; cases h
        | succ n17 ih17 =>
          intro μ x1 x2 x3 x4 H locs ls h hP hS hl
          rw [f_X10_spender_L17] at h
          refine lv_iload hx hb dX10_spender_17 (lv_at hl 4 rfl) ?_
          refine lv_iconst (v := (4 : Int32)) hx hb dX10_spender_19 (by decide) ?_
          refine lv_icmp_ge (tgt := 73) hx hb dX10_spender_20 (by decide) (fun c4 => ?_) (fun c4 => ?_)
          · rw [if_pos c4] at h
            refine lv_iload_n hx hb dX10_spender_73 rfl (lv_at hl 3 rfl) ?_
            refine lv_iload_n hx hb dX10_spender_74 rfl (lv_at hl 1 rfl) ?_
            refine lv_icmp_ne (tgt := 80) hx hb dX10_spender_75 (by decide) (fun c5 => ?_) (fun c5 => ?_)
            · rw [if_neg c5] at h
              refine lv_iinc (v := (x2 + (1 : Int32))) (lv' := [(2, .int (x2 + (1 : Int32))), (0, .ref (fw_ad E 0 18)), (1, .int x1), (3, .int x3), (4, .int x4)]) hx hb dX10_spender_80 hl (k := 2) rfl rfl (by decide) rfl (fun ls hl => ?_)
              refine lv_goto (tgt := 7) hx hb dX10_spender_83 (by decide) ?_
              exact ih7 μ x1 (x2 + (1 : Int32)) H locs ls h hP hS (lv_sub hl [1, 2, 0] rfl)
            · rw [if_pos c5] at h
              refine lv_iload_n hx hb dX10_spender_78 rfl (lv_at hl 2 rfl) ?_
              exact W.iret (v := x2) hx hb hr (fw_ew (mk := Value.int) h hP hS) hS.2.2 dX10_spender_79
          · rw [if_neg c4] at h
            refine lv_iload_n hx hb dX10_spender_23 rfl (lv_at hl 3 rfl) ?_
            refine lv_aload_n hx hb dX10_spender_24 rfl (lv_at hl 0 rfl) ?_
            refine lv_iload hx hb dX10_spender_25 (lv_at hl 4 rfl) ?_
            obtain ⟨r6, hc6, h⟩ := fw_b1_e h
            refine fw_ret (va_runV (As := [.int x4]) (rest := [.int x3]) ⟨hx, hb, hml, hown, hU⟩ (k_X10_sumOf l hE x4 hc6) (cwV 1 hU (fw_gV m_1272 m_1274 ms_26 m_9 m_1275) rfl rfl rfl (by decide +kernel) ⟨(Nat.le_of_ble_eq_true rfl), (Nat.le_of_ble_eq_true rfl)⟩) ⟨fw_blind, fw_recv hK hP (fw_V0 (f := 18) (by decide) (by decide)) rfl rfl, fun U hU9 hW9 => ⟨rfl, fw_pre hK hP hSt hS U hU9 hW9⟩⟩ rfl rfl hl.1 rfl (lv_room (Nat.le_of_ble_eq_true rfl)) dX10_spender_27 ⟨Nat.zero_le _, Nat.zero_le _⟩) hS (fun H locs hP hS => ?_)
            refine lv_aload_n hx hb dX10_spender_30 rfl (lv_at hl 0 rfl) ?_
            refine lv_iload_n hx hb dX10_spender_31 rfl (lv_at hl 2 rfl) ?_
            obtain ⟨r7, hc7, h⟩ := fw_b1_e h
            refine fw_ret (va_runV (As := [.int x2]) (rest := [.float r6, .int x3]) ⟨hx, hb, hml, hown, hU⟩ (k_X10_sumOf l hE x2 hc7) (cwV 1 hU (fw_gV m_1272 m_1274 ms_26 m_9 m_1275) rfl rfl rfl (by decide +kernel) ⟨(Nat.le_of_ble_eq_true rfl), (Nat.le_of_ble_eq_true rfl)⟩) ⟨fw_blind, fw_recv hK hP (fw_V0 (f := 18) (by decide) (by decide)) rfl rfl, fun U hU9 hW9 => ⟨rfl, fw_pre hK hP hSt hS U hU9 hW9⟩⟩ rfl rfl hl.1 rfl (lv_room (Nat.le_of_ble_eq_true rfl)) dX10_spender_32 ⟨Nat.zero_le _, Nat.zero_le _⟩) hS (fun H locs hP hS => ?_)
            refine lv_fcmp (op := CmpOp.l) hx hb dX10_spender_35 ?_
            refine lv_if_gt (tgt := 60) hx hb dX10_spender_36 (by decide) (fun c8 => ?_) (fun c8 => ?_)
            · rw [if_pos c8] at h
              refine lv_iconst (v := (1 : Int32)) hx hb dX10_spender_60 (by decide) ?_
              refine lv_goto (tgt := 65) hx hb dX10_spender_61 (by decide) ?_
              refine lv_iadd hx hb dX10_spender_65 ?_
              refine lv_istore_n (lv' := [(3, .int (x3 + (1 : Int32))), (0, .ref (fw_ad E 0 18)), (1, .int x1), (2, .int x2), (4, .int x4)]) hx hb dX10_spender_66 rfl hl (by decide) rfl (fun ls hl => ?_)
              refine lv_iinc (v := (x4 + (1 : Int32))) (lv' := [(4, .int (x4 + (1 : Int32))), (3, .int (x3 + (1 : Int32))), (0, .ref (fw_ad E 0 18)), (1, .int x1), (2, .int x2)]) hx hb dX10_spender_67 hl (k := 4) rfl rfl (by decide) rfl (fun ls hl => ?_)
              refine lv_goto (tgt := 17) hx hb dX10_spender_70 (by decide) ?_
              exact ih17 μ x1 x2 (x3 + (1 : Int32)) (x4 + (1 : Int32)) H locs ls h hP hS (lv_sub hl [2, 3, 4, 1, 0] rfl)
            · rw [if_neg c8] at h
              refine lv_aload_n hx hb dX10_spender_39 rfl (lv_at hl 0 rfl) ?_
              refine lv_iload hx hb dX10_spender_40 (lv_at hl 4 rfl) ?_
              obtain ⟨r9, hc9, h⟩ := fw_b1_e h
              refine fw_ret (va_runV (As := [.int x4]) (rest := [.int x3]) ⟨hx, hb, hml, hown, hU⟩ (k_X10_sumOf l hE x4 hc9) (cwV 1 hU (fw_gV m_1272 m_1274 ms_26 m_9 m_1275) rfl rfl rfl (by decide +kernel) ⟨(Nat.le_of_ble_eq_true rfl), (Nat.le_of_ble_eq_true rfl)⟩) ⟨fw_blind, fw_recv hK hP (fw_V0 (f := 18) (by decide) (by decide)) rfl rfl, fun U hU9 hW9 => ⟨rfl, fw_pre hK hP hSt hS U hU9 hW9⟩⟩ rfl rfl hl.1 rfl (lv_room (Nat.le_of_ble_eq_true rfl)) dX10_spender_42 ⟨Nat.zero_le _, Nat.zero_le _⟩) hS (fun H locs hP hS => ?_)
              refine lv_aload_n hx hb dX10_spender_45 rfl (lv_at hl 0 rfl) ?_
              refine lv_iload_n hx hb dX10_spender_46 rfl (lv_at hl 2 rfl) ?_
              obtain ⟨r10, hc10, h⟩ := fw_b1_e h
              refine fw_ret (va_runV (As := [.int x2]) (rest := [.float r9, .int x3]) ⟨hx, hb, hml, hown, hU⟩ (k_X10_sumOf l hE x2 hc10) (cwV 1 hU (fw_gV m_1272 m_1274 ms_26 m_9 m_1275) rfl rfl rfl (by decide +kernel) ⟨(Nat.le_of_ble_eq_true rfl), (Nat.le_of_ble_eq_true rfl)⟩) ⟨fw_blind, fw_recv hK hP (fw_V0 (f := 18) (by decide) (by decide)) rfl rfl, fun U hU9 hW9 => ⟨rfl, fw_pre hK hP hSt hS U hU9 hW9⟩⟩ rfl rfl hl.1 rfl (lv_room (Nat.le_of_ble_eq_true rfl)) dX10_spender_47 ⟨Nat.zero_le _, Nat.zero_le _⟩) hS (fun H locs hP hS => ?_)
              refine lv_fcmp (op := CmpOp.l) hx hb dX10_spender_50 ?_
              refine lv_if_ne (tgt := 64) hx hb dX10_spender_51 (by decide) (fun c11 => ?_) (fun c11 => ?_)
              · rw [if_neg c11] at h
                refine lv_iconst (v := (0 : Int32)) hx hb dX10_spender_64 (by decide) ?_
                refine lv_iadd hx hb dX10_spender_65 ?_
                refine lv_istore_n (lv' := [(3, .int (x3 + (0 : Int32))), (0, .ref (fw_ad E 0 18)), (1, .int x1), (2, .int x2), (4, .int x4)]) hx hb dX10_spender_66 rfl hl (by decide) rfl (fun ls hl => ?_)
                refine lv_iinc (v := (x4 + (1 : Int32))) (lv' := [(4, .int (x4 + (1 : Int32))), (3, .int (x3 + (0 : Int32))), (0, .ref (fw_ad E 0 18)), (1, .int x1), (2, .int x2)]) hx hb dX10_spender_67 hl (k := 4) rfl rfl (by decide) rfl (fun ls hl => ?_)
                refine lv_goto (tgt := 17) hx hb dX10_spender_70 (by decide) ?_
                exact ih17 μ x1 x2 (x3 + (0 : Int32)) (x4 + (1 : Int32)) H locs ls h hP hS (lv_sub hl [2, 3, 4, 1, 0] rfl)
              · rw [if_pos c11] at h
                refine lv_iload hx hb dX10_spender_54 (lv_at hl 4 rfl) ?_
                refine lv_iload_n hx hb dX10_spender_56 rfl (lv_at hl 2 rfl) ?_
                refine lv_icmp_ge (tgt := 64) hx hb dX10_spender_57 (by decide) (fun c12 => ?_) (fun c12 => ?_)
                · rw [if_pos c12] at h
                  refine lv_iconst (v := (0 : Int32)) hx hb dX10_spender_64 (by decide) ?_
                  refine lv_iadd hx hb dX10_spender_65 ?_
                  refine lv_istore_n (lv' := [(3, .int (x3 + (0 : Int32))), (0, .ref (fw_ad E 0 18)), (1, .int x1), (2, .int x2), (4, .int x4)]) hx hb dX10_spender_66 rfl hl (by decide) rfl (fun ls hl => ?_)
                  refine lv_iinc (v := (x4 + (1 : Int32))) (lv' := [(4, .int (x4 + (1 : Int32))), (3, .int (x3 + (0 : Int32))), (0, .ref (fw_ad E 0 18)), (1, .int x1), (2, .int x2)]) hx hb dX10_spender_67 hl (k := 4) rfl rfl (by decide) rfl (fun ls hl => ?_)
                  refine lv_goto (tgt := 17) hx hb dX10_spender_70 (by decide) ?_
                  exact ih17 μ x1 x2 (x3 + (0 : Int32)) (x4 + (1 : Int32)) H locs ls h hP hS (lv_sub hl [2, 3, 4, 1, 0] rfl)
                · rw [if_neg c12] at h
                  refine lv_iconst (v := (1 : Int32)) hx hb dX10_spender_60 (by decide) ?_
                  refine lv_goto (tgt := 65) hx hb dX10_spender_61 (by decide) ?_
                  refine lv_iadd hx hb dX10_spender_65 ?_
                  refine lv_istore_n (lv' := [(3, .int (x3 + (1 : Int32))), (0, .ref (fw_ad E 0 18)), (1, .int x1), (2, .int x2), (4, .int x4)]) hx hb dX10_spender_66 rfl hl (by decide) rfl (fun ls hl => ?_)
                  refine lv_iinc (v := (x4 + (1 : Int32))) (lv' := [(4, .int (x4 + (1 : Int32))), (3, .int (x3 + (1 : Int32))), (0, .ref (fw_ad E 0 18)), (1, .int x1), (2, .int x2)]) hx hb dX10_spender_67 hl (k := 4) rfl rfl (by decide) rfl (fun ls hl => ?_)
                  refine lv_goto (tgt := 17) hx hb dX10_spender_70 (by decide) ?_
                  exact ih17 μ x1 x2 (x3 + (1 : Int32)) (x4 + (1 : Int32)) H locs ls h hP hS (lv_sub hl [2, 3, 4, 1, 0] rfl)
      intro μ x1 x2 H locs ls h hP hS hl
      rw [f_X10_spender_L7] at h
      refine lv_iload_n hx hb dX10_spender_7 rfl (lv_at hl 2 rfl) ?_
      refine lv_iconst (v := (4 : Int32)) hx hb dX10_spender_8 (by decide) ?_
      refine lv_icmp_ge (tgt := 86) hx hb dX10_spender_9 (by decide) (fun c2 => ?_) (fun c2 => ?_)
      · rw [if_pos c2] at h
        refine lv_aload_n hx hb dX10_spender_86 rfl (lv_at hl 0 rfl) ?_
        refine lv_iconst (v := (1 : Int32)) hx hb dX10_spender_87 (by decide) ?_
        obtain ⟨μ3, r3, hc3, h⟩ := fw_b2_e h
        refine fw_ret (va_runV (As := [.int (1 : Int32)]) (rest := []) ⟨hx, hb, hml, hown, hU⟩ (k_X10_fails l hE (1 : Int32) hc3) (cwV 1 hU (fw_gV m_1216 m_1218 ms_17 m_9 m_1219) rfl rfl rfl (by decide +kernel) ⟨(Nat.le_of_ble_eq_true rfl), (Nat.le_of_ble_eq_true rfl)⟩) ⟨fw_blind, fw_recv hK hP (fw_V0 (f := 18) (by decide) (by decide)) rfl rfl, fun U hU9 hW9 => ⟨rfl, fw_pre hK hP hSt hS U hU9 hW9⟩⟩ rfl rfl hl.1 rfl (lv_room (Nat.le_of_ble_eq_true rfl)) dX10_spender_88 ⟨Nat.zero_le _, Nat.zero_le _⟩) hS (fun H locs hP hS => ?_)
        exact W.iret (v := r3) hx hb hr (fw_ew (mk := Value.int) h hP hS) hS.2.2 dX10_spender_91
      · rw [if_neg c2] at h
        refine lv_iconst (v := (0 : Int32)) hx hb dX10_spender_12 (by decide) ?_
        refine lv_istore_n (lv' := [(3, .int (0 : Int32)), (0, .ref (fw_ad E 0 18)), (1, .int x1), (2, .int x2)]) hx hb dX10_spender_13 rfl hl (by decide) rfl (fun ls hl => ?_)
        refine lv_iconst (v := (0 : Int32)) hx hb dX10_spender_14 (by decide) ?_
        refine lv_istore (lv' := [(4, .int (0 : Int32)), (3, .int (0 : Int32)), (0, .ref (fw_ad E 0 18)), (1, .int x1), (2, .int x2)]) hx hb dX10_spender_15 hl (by decide) rfl (fun ls hl => ?_)
        exact L17 1000 μ x1 x2 (0 : Int32) (0 : Int32) H locs ls h hP hS (lv_sub hl [2, 3, 4, 1, 0] rfl)
  have EN : ∀ (H : Heap) (locs : List Loc) (ls : Array Slot), fw_P E o d μ H → va_S (fw_A E) s.heap H locs → lv_has ls 5 [(0, .ref (fw_ad E 0 18)), (1, .int x1)] → W p l e (headSpec (fw_ws yX10_spender cX10_spender 5 (some .int)) ({ frames := 2, cells := 0, slots := 0, locals := 61 } : Room)).room s m args below meth c H locs 0 0 (MQ below (fw_Q E o d (some (.int r)) μ') args s 0 0 (fw_A E)) (F0 m 0 ls []) := by
    intro H locs ls hP hS hl
    unfold f_X10_spender at h
    refine lv_aload_n hx hb dX10_spender_0 rfl (lv_at hl 0 rfl) ?_
    refine lv_iconst (v := (0 : Int32)) hx hb dX10_spender_1 (by decide) ?_
    refine fw_put (ci := 8) (v := .int (0 : Int32)) (ty := .int) (C := RX10) (T := TX10) (N := 20) hx hb hU inU10 tyX10 tyX10_ok nmX10 hown hK hP hE hS (fw_V0 (f := 18) (by decide) (by decide)) rfl rfl 0 (by decide) (hU (Cond.fieldLink RX10 41 "LaundryServiceModel" "thrown" "I") m_1117) (fun _ h9 => h9) rfl (by decide +kernel) rfl rfl (Nat.le_of_ble_eq_true rfl) 0 (0 : Int32) (by rw [fw_u_c]; rfl) dX10_spender_2 (fun H locs hP hS => ?_)
    obtain ⟨μ1, eμ1, h⟩ := fw_l_e h
    rw [← eμ1] at hP
    refine lv_iconst (v := (0 : Int32)) hx hb dX10_spender_5 (by decide) ?_
    refine lv_istore_n (lv' := [(2, .int (0 : Int32)), (0, .ref (fw_ad E 0 18)), (1, .int x1)]) hx hb dX10_spender_6 rfl hl (by decide) rfl (fun ls hl => ?_)
    exact L7 1000 μ1 x1 (0 : Int32) H locs ls h hP hS (lv_sub hl [1, 2, 0] rfl)
  subst ha
  have hl := lv_entry ([.ref (fw_ad E 0 18), .int x1]) (n := 5) (Nat.le_of_ble_eq_true rfl)
  rw [lg_entry_eq]
  generalize (lg_sl ([.ref (fw_ad E 0 18), .int x1]) ++ List.replicate (5 - (lg_sl ([.ref (fw_ad E 0 18), .int x1])).length) Slot.unset).toArray = ls at hl ⊢
  exact EN s.heap [] ls hP va_S.rf hl
set_option maxHeartbeats 4000000 in
set_option maxRecDepth 100000 in
theorem k_X10_meanStains (l : Launch) {E : fw_E} {o : Int64} {d : UInt64} (hE : fw_ok E) {μ μ' : fw_M} {r : UInt64} (h : f_X10_meanStains μ = some (μ', r)) : Met l yX10_meanStains (fw_ws yX10_meanStains cX10_meanStains 4 (some .double)) ({ frames := 2, cells := 0, slots := 0, locals := 43 } : Room) (va_Pc [.ref (fw_ad E 0 18)] (fw_Pre E o d μ)) (fw_Q E o d (some (.double r)) μ') 0 0 (fw_A E) := by
  refine Met.ofW (cc := cX10_meanStains) (maxL := 4) (ret := (some .double)) (by decide) rfl ?_
  intro p e s m args below meth c s₁ B hml hv
  obtain ⟨ha, hK, hP, hSt⟩ := hv
  have hx := B.exec
  have hb := B.bytes
  have hr := B.returns
  have hts := atoms_spec (ws := fw_ws yX10_meanStains cX10_meanStains 4 (some .double)) B.pre
  have hU : ∀ w ∈ fw_U, w.before args s = true := fun w hw => hts w (List.mem_cons_of_mem _ hw)
  have hown : s.vm.findClass RX10 = some m.cls := findClass_of_methodNamed B.named
  have hlocks := B.notSynchronized
  have J72 : ∀ (μ : fw_M) (x1 : Int32) (x2 : Int32) (s1 : Int32) (H : Heap) (locs : List Loc) (ls : Array Slot), f_X10_meanStains_J72 μ x1 x2 s1 = some (μ', r) → fw_P E o d μ H → va_S (fw_A E) s.heap H locs → lv_has ls 4 [(0, .ref (fw_ad E 0 18)), (1, .int x1), (2, .int x2)] → W p l e (headSpec (fw_ws yX10_meanStains cX10_meanStains 4 (some .double)) ({ frames := 2, cells := 0, slots := 0, locals := 43 } : Room)).room s m args below meth c H locs 0 0 (MQ below (fw_Q E o d (some (.double r)) μ') args s 0 0 (fw_A E)) (F0 m 72 ls [.int s1, .ref (fw_ad E 0 18)]) := by
    intro μ x1 x2 s1 H locs ls h hP hS hl
    unfold f_X10_meanStains_J72 at h
    refine fw_put (ci := 8) (v := .int s1) (ty := .int) (C := RX10) (T := TX10) (N := 20) hx hb hU inU10 tyX10 tyX10_ok nmX10 hown hK hP hE hS (fw_V0 (f := 18) (by decide) (by decide)) rfl rfl 0 (by decide) (hU (Cond.fieldLink RX10 41 "LaundryServiceModel" "thrown" "I") m_1117) (fun _ h9 => h9) rfl (by decide +kernel) rfl rfl (Nat.le_of_ble_eq_true rfl) 0 s1 (by rw [fw_u_c]; rfl) dX10_meanStains_72 (fun H locs hP hS => ?_)
    obtain ⟨μ5, eμ5, h⟩ := fw_l_e h
    rw [← eμ5] at hP
    refine lv_aload_n hx hb dX10_meanStains_75 rfl (lv_at hl 0 rfl) ?_
    refine va_get (D := fw_D E) (ci := 8) (v := .int (μ5 0 18 0)) (C := RX10) (T := TX10) (N := 20) hx hb hU inU10 hown hK (fw_at hP (fw_V0 (f := 18) (by decide) (by decide))) 0 rfl rfl 0 (by decide) (hU (Cond.fieldLink RX10 41 "LaundryServiceModel" "thrown" "I") m_1117) (fun _ h9 => h9) rfl dX10_meanStains_76 ?_
    refine lv_if_le (tgt := 86) hx hb dX10_meanStains_79 (by decide) (fun c6 => ?_) (fun c6 => ?_)
    · rw [if_pos c6] at h
      refine lv_iload_n hx hb dX10_meanStains_86 rfl (lv_at hl 2 rfl) ?_
      refine lv_i2d hx hb dX10_meanStains_87 ?_
      refine lv_iload_n hx hb dX10_meanStains_88 rfl (lv_at hl 1 rfl) ?_
      refine lv_i2d hx hb dX10_meanStains_89 ?_
      obtain ⟨g7, h⟩ := fw_g_e h
      refine lv_ddiv hx hb dX10_meanStains_90 (fw_f64_e g7) ?_
      exact W.dret (v := (FP.ddiv (FP.i2d x2) (FP.i2d x1))) hx hb hr (fw_ew (mk := Value.double) h hP hS) hS.2.2 dX10_meanStains_91
    · rw [if_neg c6] at h
      refine lv_dconst0 hx hb dX10_meanStains_82 ?_
      refine lv_goto (tgt := 91) hx hb dX10_meanStains_83 (by decide) ?_
      exact W.dret (v := FP.dconst0) hx hb hr (fw_ew (mk := Value.double) h hP hS) hS.2.2 dX10_meanStains_91
  have L6 : ∀ (n : Nat) (μ : fw_M) (x1 : Int32) (x2 : Int32) (x3 : Int32) (H : Heap) (locs : List Loc) (ls : Array Slot), f_X10_meanStains_L6 n μ x1 x2 x3 = some (μ', r) → fw_P E o d μ H → va_S (fw_A E) s.heap H locs → lv_has ls 4 [(0, .ref (fw_ad E 0 18)), (1, .int x1), (2, .int x2), (3, .int x3)] → W p l e (headSpec (fw_ws yX10_meanStains cX10_meanStains 4 (some .double)) ({ frames := 2, cells := 0, slots := 0, locals := 43 } : Room)).room s m args below meth c H locs 0 0 (MQ below (fw_Q E o d (some (.double r)) μ') args s 0 0 (fw_A E)) (F0 m 6 ls []) := by
    intro n6
    induction n6 with
    | zero => intro μ x1 x2 x3 H locs ls h; rw [f_X10_meanStains_L6] at h; cases h
    | succ n6 ih6 =>
      have J30 : ∀ (μ : fw_M) (x2 : Int32) (x3 : Int32) (s0 : Int32) (s1 : Int32) (H : Heap) (locs : List Loc) (ls : Array Slot), f_X10_meanStains_J30 (f_X10_meanStains_L6 n6) μ x2 x3 s0 s1 = some (μ', r) → fw_P E o d μ H → va_S (fw_A E) s.heap H locs → lv_has ls 4 [(0, .ref (fw_ad E 0 18)), (2, .int x2), (3, .int x3)] → W p l e (headSpec (fw_ws yX10_meanStains cX10_meanStains 4 (some .double)) ({ frames := 2, cells := 0, slots := 0, locals := 43 } : Room)).room s m args below meth c H locs 0 0 (MQ below (fw_Q E o d (some (.double r)) μ') args s 0 0 (fw_A E)) (F0 m 30 ls [.int s1, .int s0]) := by
        intro μ x2 x3 s0 s1 H locs ls h hP hS hl
        unfold f_X10_meanStains_J30 at h
        refine lv_iadd hx hb dX10_meanStains_30 ?_
        refine lv_istore_n (lv' := [(1, .int (s0 + s1)), (0, .ref (fw_ad E 0 18)), (2, .int x2), (3, .int x3)]) hx hb dX10_meanStains_31 rfl hl (by decide) rfl (fun ls hl => ?_)
        refine lv_iload_n hx hb dX10_meanStains_32 rfl (lv_at hl 2 rfl) ?_
        refine lv_aload_n hx hb dX10_meanStains_33 rfl (lv_at hl 1 rfl) ?_
        refine lv_iload_n hx hb dX10_meanStains_34 rfl (lv_at hl 3 rfl) ?_
        obtain ⟨r8, hc8, h⟩ := fw_b1_e h
        refine fw_ret (va_runV (As := [.int x3]) (rest := [.int x2]) ⟨hx, hb, hml, hown, hU⟩ (k_X10_isHere l hE x3 hc8) (cwV 1 hU (fw_gV m_1461 m_1463 ms_39 m_9 m_1464) rfl rfl rfl (by decide +kernel) ⟨(Nat.le_of_ble_eq_true rfl), (Nat.le_of_ble_eq_true rfl)⟩) ⟨fw_blind, fw_recv hK hP (fw_V0 (f := 18) (by decide) (by decide)) rfl rfl, fun U hU9 hW9 => ⟨rfl, fw_pre hK hP hSt hS U hU9 hW9⟩⟩ rfl rfl hl.1 rfl (lv_room (Nat.le_of_ble_eq_true rfl)) dX10_meanStains_35 ⟨Nat.zero_le _, Nat.zero_le _⟩) hS (fun H locs hP hS => ?_)
        refine lv_if_eq (tgt := 53) hx hb dX10_meanStains_38 (by decide) (fun c9 => ?_) (fun c9 => ?_)
        · rw [if_pos c9] at h
          refine lv_iconst (v := (0 : Int32)) hx hb dX10_meanStains_53 (by decide) ?_
          refine lv_iadd hx hb dX10_meanStains_54 ?_
          refine lv_istore_n (lv' := [(2, .int (x2 + (0 : Int32))), (1, .int (s0 + s1)), (0, .ref (fw_ad E 0 18)), (3, .int x3)]) hx hb dX10_meanStains_55 rfl hl (by decide) rfl (fun ls hl => ?_)
          refine lv_iinc (v := (x3 + (1 : Int32))) (lv' := [(3, .int (x3 + (1 : Int32))), (2, .int (x2 + (0 : Int32))), (1, .int (s0 + s1)), (0, .ref (fw_ad E 0 18))]) hx hb dX10_meanStains_56 hl (k := 3) rfl rfl (by decide) rfl (fun ls hl => ?_)
          refine lv_goto (tgt := 6) hx hb dX10_meanStains_59 (by decide) ?_
          exact ih6 μ (s0 + s1) (x2 + (0 : Int32)) (x3 + (1 : Int32)) H locs ls h hP hS (lv_sub hl [3, 2, 1, 0] rfl)
        · rw [if_neg c9] at h
          refine lv_aload_n hx hb dX10_meanStains_41 rfl (lv_at hl 1 rfl) ?_
          refine lv_iload_n hx hb dX10_meanStains_42 rfl (lv_at hl 3 rfl) ?_
          refine lv_iconst (v := (3 : Int32)) hx hb dX10_meanStains_43 (by decide) ?_
          obtain ⟨r10, hc10, h⟩ := fw_b1_e h
          refine fw_ret (va_runV (As := [.int x3, .int (3 : Int32)]) (rest := [.int x2]) ⟨hx, hb, hml, hown, hU⟩ (k_X10_of l hE x3 (3 : Int32) hc10) (cwV 2 hU (fw_gV m_1235 m_1237 ms_20 m_9 m_1238) rfl rfl rfl (by decide +kernel) ⟨(Nat.le_of_ble_eq_true rfl), (Nat.le_of_ble_eq_true rfl)⟩) ⟨fw_blind, fw_recv hK hP (fw_V0 (f := 18) (by decide) (by decide)) rfl rfl, fun U hU9 hW9 => ⟨rfl, fw_pre hK hP hSt hS U hU9 hW9⟩⟩ rfl rfl hl.1 rfl (lv_room (Nat.le_of_ble_eq_true rfl)) dX10_meanStains_44 ⟨Nat.zero_le _, Nat.zero_le _⟩) hS (fun H locs hP hS => ?_)
          obtain ⟨r11, hc11, h⟩ := fw_b1_e h
          refine fw_ret (va_runS (As := [.int r10]) (rest := [.int x2]) ⟨hx, hb, hml, hown, hU⟩ (k_X10_bits l hE r10 hc11) (va_cwS 1 hU (fw_gS m_1354 m_1355 m_9 m_1356) rfl rfl rfl (by decide +kernel) ⟨(Nat.le_of_ble_eq_true rfl), (Nat.le_of_ble_eq_true rfl)⟩) ⟨fw_blind, fun U hU9 hW9 => ⟨rfl, fw_pre hK hP hSt hS U hU9 hW9⟩⟩ rfl rfl hl.1 rfl (lv_room (Nat.le_of_ble_eq_true rfl)) dX10_meanStains_47 ⟨Nat.zero_le _, Nat.zero_le _⟩) hS (fun H locs hP hS => ?_)
          refine lv_goto (tgt := 54) hx hb dX10_meanStains_50 (by decide) ?_
          refine lv_iadd hx hb dX10_meanStains_54 ?_
          refine lv_istore_n (lv' := [(2, .int (x2 + r11)), (1, .int (s0 + s1)), (0, .ref (fw_ad E 0 18)), (3, .int x3)]) hx hb dX10_meanStains_55 rfl hl (by decide) rfl (fun ls hl => ?_)
          refine lv_iinc (v := (x3 + (1 : Int32))) (lv' := [(3, .int (x3 + (1 : Int32))), (2, .int (x2 + r11)), (1, .int (s0 + s1)), (0, .ref (fw_ad E 0 18))]) hx hb dX10_meanStains_56 hl (k := 3) rfl rfl (by decide) rfl (fun ls hl => ?_)
          refine lv_goto (tgt := 6) hx hb dX10_meanStains_59 (by decide) ?_
          exact ih6 μ (s0 + s1) (x2 + r11) (x3 + (1 : Int32)) H locs ls h hP hS (lv_sub hl [3, 2, 1, 0] rfl)
      intro μ x1 x2 x3 H locs ls h hP hS hl
      rw [f_X10_meanStains_L6] at h
      refine lv_iload_n hx hb dX10_meanStains_6 rfl (lv_at hl 3 rfl) ?_
      refine lv_aload_n hx hb dX10_meanStains_7 rfl (lv_at hl 0 rfl) ?_
      refine va_get (D := fw_D E) (ci := 8) (v := .ref (fw_ad E 0 19)) (C := RX10) (T := TX10) (N := 20) hx hb hU inU10 hown hK (fw_at hP (fw_V0 (f := 18) (by decide) (by decide))) 0 rfl rfl 1 (by decide) (hU (Cond.fieldLink RX10 7 "LaundryServiceModel" "s" "[I") m_1118) (fun _ h9 => h9) rfl dX10_meanStains_8 ?_
      refine lv_iconst (v := (0 : Int32)) hx hb dX10_meanStains_11 (by decide) ?_
      refine va_iald (D := fw_D E) hx hb hK (fw_at hP (fw_V0 (f := 19) (by decide) (by decide))) 0 0 rfl rfl (fw_in_e (n := 104) (by decide)) dX10_meanStains_12 ?_
      refine lv_icmp_ge (tgt := 62) hx hb dX10_meanStains_13 (by decide) (fun c1 => ?_) (fun c1 => ?_)
      · rw [if_pos c1] at h
        refine lv_aload_n hx hb dX10_meanStains_62 rfl (lv_at hl 0 rfl) ?_
        refine lv_iload_n hx hb dX10_meanStains_63 rfl (lv_at hl 1 rfl) ?_
        refine lv_if_ne (tgt := 71) hx hb dX10_meanStains_64 (by decide) (fun c2 => ?_) (fun c2 => ?_)
        · rw [if_neg c2] at h
          refine lv_iconst (v := (0 : Int32)) hx hb dX10_meanStains_71 (by decide) ?_
          exact J72 μ x1 x2 (0 : Int32) H locs ls h hP hS (lv_sub hl [0, 1, 2] rfl)
        · rw [if_pos c2] at h
          refine lv_iconst (v := (1 : Int32)) hx hb dX10_meanStains_67 (by decide) ?_
          refine lv_goto (tgt := 72) hx hb dX10_meanStains_68 (by decide) ?_
          exact J72 μ x1 x2 (1 : Int32) H locs ls h hP hS (lv_sub hl [0, 1, 2] rfl)
      · rw [if_neg c1] at h
        refine lv_iload_n hx hb dX10_meanStains_16 rfl (lv_at hl 1 rfl) ?_
        refine lv_aload_n hx hb dX10_meanStains_17 rfl (lv_at hl 0 rfl) ?_
        refine lv_iload_n hx hb dX10_meanStains_18 rfl (lv_at hl 3 rfl) ?_
        obtain ⟨r3, hc3, h⟩ := fw_b1_e h
        refine fw_ret (va_runV (As := [.int x3]) (rest := [.int x1]) ⟨hx, hb, hml, hown, hU⟩ (k_X10_isHere l hE x3 hc3) (cwV 1 hU (fw_gV m_1461 m_1463 ms_39 m_9 m_1464) rfl rfl rfl (by decide +kernel) ⟨(Nat.le_of_ble_eq_true rfl), (Nat.le_of_ble_eq_true rfl)⟩) ⟨fw_blind, fw_recv hK hP (fw_V0 (f := 18) (by decide) (by decide)) rfl rfl, fun U hU9 hW9 => ⟨rfl, fw_pre hK hP hSt hS U hU9 hW9⟩⟩ rfl rfl hl.1 rfl (lv_room (Nat.le_of_ble_eq_true rfl)) dX10_meanStains_19 ⟨Nat.zero_le _, Nat.zero_le _⟩) hS (fun H locs hP hS => ?_)
        refine lv_if_eq (tgt := 29) hx hb dX10_meanStains_22 (by decide) (fun c4 => ?_) (fun c4 => ?_)
        · rw [if_pos c4] at h
          refine lv_iconst (v := (0 : Int32)) hx hb dX10_meanStains_29 (by decide) ?_
          exact J30 μ x2 x3 x1 (0 : Int32) H locs ls h hP hS (lv_sub hl [0, 2, 3] rfl)
        · rw [if_neg c4] at h
          refine lv_iconst (v := (1 : Int32)) hx hb dX10_meanStains_25 (by decide) ?_
          refine lv_goto (tgt := 30) hx hb dX10_meanStains_26 (by decide) ?_
          exact J30 μ x2 x3 x1 (1 : Int32) H locs ls h hP hS (lv_sub hl [0, 2, 3] rfl)
  have EN : ∀ (H : Heap) (locs : List Loc) (ls : Array Slot), fw_P E o d μ H → va_S (fw_A E) s.heap H locs → lv_has ls 4 [(0, .ref (fw_ad E 0 18))] → W p l e (headSpec (fw_ws yX10_meanStains cX10_meanStains 4 (some .double)) ({ frames := 2, cells := 0, slots := 0, locals := 43 } : Room)).room s m args below meth c H locs 0 0 (MQ below (fw_Q E o d (some (.double r)) μ') args s 0 0 (fw_A E)) (F0 m 0 ls []) := by
    intro H locs ls hP hS hl
    unfold f_X10_meanStains at h
    refine lv_iconst (v := (0 : Int32)) hx hb dX10_meanStains_0 (by decide) ?_
    refine lv_istore_n (lv' := [(1, .int (0 : Int32)), (0, .ref (fw_ad E 0 18))]) hx hb dX10_meanStains_1 rfl hl (by decide) rfl (fun ls hl => ?_)
    refine lv_iconst (v := (0 : Int32)) hx hb dX10_meanStains_2 (by decide) ?_
    refine lv_istore_n (lv' := [(2, .int (0 : Int32)), (1, .int (0 : Int32)), (0, .ref (fw_ad E 0 18))]) hx hb dX10_meanStains_3 rfl hl (by decide) rfl (fun ls hl => ?_)
    refine lv_iconst (v := (0 : Int32)) hx hb dX10_meanStains_4 (by decide) ?_
    refine lv_istore_n (lv' := [(3, .int (0 : Int32)), (2, .int (0 : Int32)), (1, .int (0 : Int32)), (0, .ref (fw_ad E 0 18))]) hx hb dX10_meanStains_5 rfl hl (by decide) rfl (fun ls hl => ?_)
    exact L6 1000 μ (0 : Int32) (0 : Int32) (0 : Int32) H locs ls h hP hS (lv_sub hl [3, 2, 1, 0] rfl)
  subst ha
  have hl := lv_entry ([.ref (fw_ad E 0 18)]) (n := 4) (Nat.le_of_ble_eq_true rfl)
  rw [lg_entry_eq]
  generalize (lg_sl ([.ref (fw_ad E 0 18)]) ++ List.replicate (4 - (lg_sl ([.ref (fw_ad E 0 18)])).length) Slot.unset).toArray = ls at hl ⊢
  exact EN s.heap [] ls hP va_S.rf hl
set_option maxHeartbeats 4000000 in
set_option maxRecDepth 100000 in
theorem k_X10_lostShare (l : Launch) {E : fw_E} {o : Int64} {d : UInt64} (hE : fw_ok E) {μ μ' : fw_M} {r : UInt32} (h : f_X10_lostShare μ = some (μ', r)) : Met l yX10_lostShare (fw_ws yX10_lostShare cX10_lostShare 3 (some .float)) ({ frames := 2, cells := 0, slots := 0, locals := 43 } : Room) (va_Pc [.ref (fw_ad E 0 18)] (fw_Pre E o d μ)) (fw_Q E o d (some (.float r)) μ') 0 0 (fw_A E) := by
  refine Met.ofW (cc := cX10_lostShare) (maxL := 3) (ret := (some .float)) (by decide) rfl ?_
  intro p e s m args below meth c s₁ B hml hv
  obtain ⟨ha, hK, hP, hSt⟩ := hv
  have hx := B.exec
  have hb := B.bytes
  have hr := B.returns
  have hts := atoms_spec (ws := fw_ws yX10_lostShare cX10_lostShare 3 (some .float)) B.pre
  have hU : ∀ w ∈ fw_U, w.before args s = true := fun w hw => hts w (List.mem_cons_of_mem _ hw)
  have hown : s.vm.findClass RX10 = some m.cls := findClass_of_methodNamed B.named
  have hlocks := B.notSynchronized
  have L31 : ∀ (n : Nat) (μ : fw_M) (x1 : Int32) (x2 : Int32) (H : Heap) (locs : List Loc) (ls : Array Slot), f_X10_lostShare_L31 n μ x1 x2 = some (μ', r) → fw_P E o d μ H → va_S (fw_A E) s.heap H locs → lv_has ls 3 [(0, .ref (fw_ad E 0 18)), (1, .int x1), (2, .int x2)] → W p l e (headSpec (fw_ws yX10_lostShare cX10_lostShare 3 (some .float)) ({ frames := 2, cells := 0, slots := 0, locals := 43 } : Room)).room s m args below meth c H locs 0 0 (MQ below (fw_Q E o d (some (.float r)) μ') args s 0 0 (fw_A E)) (F0 m 31 ls []) := by
    intro n31
    induction n31 with
    | zero => intro μ x1 x2 H locs ls h; rw [f_X10_lostShare_L31] at h; cases h
    | succ n31 ih31 =>
      intro μ x1 x2 H locs ls h hP hS hl
      rw [f_X10_lostShare_L31] at h
      refine lv_iload_n hx hb dX10_lostShare_31 rfl (lv_at hl 2 rfl) ?_
      refine lv_aload_n hx hb dX10_lostShare_32 rfl (lv_at hl 0 rfl) ?_
      refine va_get (D := fw_D E) (ci := 8) (v := .ref (fw_ad E 0 19)) (C := RX10) (T := TX10) (N := 20) hx hb hU inU10 hown hK (fw_at hP (fw_V0 (f := 18) (by decide) (by decide))) 0 rfl rfl 1 (by decide) (hU (Cond.fieldLink RX10 7 "LaundryServiceModel" "s" "[I") m_1118) (fun _ h9 => h9) rfl dX10_lostShare_33 ?_
      refine lv_iconst (v := (0 : Int32)) hx hb dX10_lostShare_36 (by decide) ?_
      refine va_iald (D := fw_D E) hx hb hK (fw_at hP (fw_V0 (f := 19) (by decide) (by decide))) 0 0 rfl rfl (fw_in_e (n := 104) (by decide)) dX10_lostShare_37 ?_
      refine lv_icmp_ge (tgt := 63) hx hb dX10_lostShare_38 (by decide) (fun c4 => ?_) (fun c4 => ?_)
      · rw [if_pos c4] at h
        refine lv_iload_n hx hb dX10_lostShare_63 rfl (lv_at hl 1 rfl) ?_
        refine lv_i2f hx hb dX10_lostShare_64 ?_
        refine lv_aload_n hx hb dX10_lostShare_65 rfl (lv_at hl 0 rfl) ?_
        refine va_get (D := fw_D E) (ci := 8) (v := .ref (fw_ad E 0 19)) (C := RX10) (T := TX10) (N := 20) hx hb hU inU10 hown hK (fw_at hP (fw_V0 (f := 18) (by decide) (by decide))) 0 rfl rfl 1 (by decide) (hU (Cond.fieldLink RX10 7 "LaundryServiceModel" "s" "[I") m_1118) (fun _ h9 => h9) rfl dX10_lostShare_66 ?_
        refine lv_iconst (v := (0 : Int32)) hx hb dX10_lostShare_69 (by decide) ?_
        refine va_iald (D := fw_D E) hx hb hK (fw_at hP (fw_V0 (f := 19) (by decide) (by decide))) 0 0 rfl rfl (fw_in_e (n := 104) (by decide)) dX10_lostShare_70 ?_
        refine lv_i2f hx hb dX10_lostShare_71 ?_
        obtain ⟨g5, h⟩ := fw_g_e h
        refine lv_fdiv hx hb dX10_lostShare_72 (fw_f32_e g5) ?_
        exact W.fret (v := (FP.fdiv (FP.i2f x1) (FP.i2f (μ 0 19 (0 : Int32).toNatClampNeg)))) hx hb hr (fw_ew (mk := Value.float) h hP hS) hS.2.2 dX10_lostShare_73
      · rw [if_neg c4] at h
        refine lv_iload_n hx hb dX10_lostShare_41 rfl (lv_at hl 1 rfl) ?_
        refine lv_aload_n hx hb dX10_lostShare_42 rfl (lv_at hl 0 rfl) ?_
        refine lv_iload_n hx hb dX10_lostShare_43 rfl (lv_at hl 2 rfl) ?_
        obtain ⟨r6, hc6, h⟩ := fw_b1_e h
        refine fw_ret (va_runV (As := [.int x2]) (rest := [.int x1]) ⟨hx, hb, hml, hown, hU⟩ (k_X10_isHere l hE x2 hc6) (cwV 1 hU (fw_gV m_1461 m_1463 ms_39 m_9 m_1464) rfl rfl rfl (by decide +kernel) ⟨(Nat.le_of_ble_eq_true rfl), (Nat.le_of_ble_eq_true rfl)⟩) ⟨fw_blind, fw_recv hK hP (fw_V0 (f := 18) (by decide) (by decide)) rfl rfl, fun U hU9 hW9 => ⟨rfl, fw_pre hK hP hSt hS U hU9 hW9⟩⟩ rfl rfl hl.1 rfl (lv_room (Nat.le_of_ble_eq_true rfl)) dX10_lostShare_44 ⟨Nat.zero_le _, Nat.zero_le _⟩) hS (fun H locs hP hS => ?_)
        refine lv_if_eq (tgt := 54) hx hb dX10_lostShare_47 (by decide) (fun c7 => ?_) (fun c7 => ?_)
        · rw [if_pos c7] at h
          refine lv_iconst (v := (1 : Int32)) hx hb dX10_lostShare_54 (by decide) ?_
          refine lv_iadd hx hb dX10_lostShare_55 ?_
          refine lv_istore_n (lv' := [(1, .int (x1 + (1 : Int32))), (0, .ref (fw_ad E 0 18)), (2, .int x2)]) hx hb dX10_lostShare_56 rfl hl (by decide) rfl (fun ls hl => ?_)
          refine lv_iinc (v := (x2 + (1 : Int32))) (lv' := [(2, .int (x2 + (1 : Int32))), (1, .int (x1 + (1 : Int32))), (0, .ref (fw_ad E 0 18))]) hx hb dX10_lostShare_57 hl (k := 2) rfl rfl (by decide) rfl (fun ls hl => ?_)
          refine lv_goto (tgt := 31) hx hb dX10_lostShare_60 (by decide) ?_
          exact ih31 μ (x1 + (1 : Int32)) (x2 + (1 : Int32)) H locs ls h hP hS (lv_sub hl [2, 1, 0] rfl)
        · rw [if_neg c7] at h
          refine lv_iconst (v := (0 : Int32)) hx hb dX10_lostShare_50 (by decide) ?_
          refine lv_goto (tgt := 55) hx hb dX10_lostShare_51 (by decide) ?_
          refine lv_iadd hx hb dX10_lostShare_55 ?_
          refine lv_istore_n (lv' := [(1, .int (x1 + (0 : Int32))), (0, .ref (fw_ad E 0 18)), (2, .int x2)]) hx hb dX10_lostShare_56 rfl hl (by decide) rfl (fun ls hl => ?_)
          refine lv_iinc (v := (x2 + (1 : Int32))) (lv' := [(2, .int (x2 + (1 : Int32))), (1, .int (x1 + (0 : Int32))), (0, .ref (fw_ad E 0 18))]) hx hb dX10_lostShare_57 hl (k := 2) rfl rfl (by decide) rfl (fun ls hl => ?_)
          refine lv_goto (tgt := 31) hx hb dX10_lostShare_60 (by decide) ?_
          exact ih31 μ (x1 + (0 : Int32)) (x2 + (1 : Int32)) H locs ls h hP hS (lv_sub hl [2, 1, 0] rfl)
  have J15 : ∀ (μ : fw_M) (s1 : Int32) (H : Heap) (locs : List Loc) (ls : Array Slot), f_X10_lostShare_J15 μ s1 = some (μ', r) → fw_P E o d μ H → va_S (fw_A E) s.heap H locs → lv_has ls 3 [(0, .ref (fw_ad E 0 18))] → W p l e (headSpec (fw_ws yX10_lostShare cX10_lostShare 3 (some .float)) ({ frames := 2, cells := 0, slots := 0, locals := 43 } : Room)).room s m args below meth c H locs 0 0 (MQ below (fw_Q E o d (some (.float r)) μ') args s 0 0 (fw_A E)) (F0 m 15 ls [.int s1, .ref (fw_ad E 0 18)]) := by
    intro μ s1 H locs ls h hP hS hl
    unfold f_X10_lostShare_J15 at h
    refine fw_put (ci := 8) (v := .int s1) (ty := .int) (C := RX10) (T := TX10) (N := 20) hx hb hU inU10 tyX10 tyX10_ok nmX10 hown hK hP hE hS (fw_V0 (f := 18) (by decide) (by decide)) rfl rfl 0 (by decide) (hU (Cond.fieldLink RX10 41 "LaundryServiceModel" "thrown" "I") m_1117) (fun _ h9 => h9) rfl (by decide +kernel) rfl rfl (Nat.le_of_ble_eq_true rfl) 0 s1 (by rw [fw_u_c]; rfl) dX10_lostShare_15 (fun H locs hP hS => ?_)
    obtain ⟨μ2, eμ2, h⟩ := fw_l_e h
    rw [← eμ2] at hP
    refine lv_aload_n hx hb dX10_lostShare_18 rfl (lv_at hl 0 rfl) ?_
    refine va_get (D := fw_D E) (ci := 8) (v := .int (μ2 0 18 0)) (C := RX10) (T := TX10) (N := 20) hx hb hU inU10 hown hK (fw_at hP (fw_V0 (f := 18) (by decide) (by decide))) 0 rfl rfl 0 (by decide) (hU (Cond.fieldLink RX10 41 "LaundryServiceModel" "thrown" "I") m_1117) (fun _ h9 => h9) rfl dX10_lostShare_19 ?_
    refine lv_if_le (tgt := 27) hx hb dX10_lostShare_22 (by decide) (fun c3 => ?_) (fun c3 => ?_)
    · rw [if_pos c3] at h
      refine lv_iconst (v := (0 : Int32)) hx hb dX10_lostShare_27 (by decide) ?_
      refine lv_istore_n (lv' := [(1, .int (0 : Int32)), (0, .ref (fw_ad E 0 18))]) hx hb dX10_lostShare_28 rfl hl (by decide) rfl (fun ls hl => ?_)
      refine lv_iconst (v := (0 : Int32)) hx hb dX10_lostShare_29 (by decide) ?_
      refine lv_istore_n (lv' := [(2, .int (0 : Int32)), (1, .int (0 : Int32)), (0, .ref (fw_ad E 0 18))]) hx hb dX10_lostShare_30 rfl hl (by decide) rfl (fun ls hl => ?_)
      exact L31 1000 μ2 (0 : Int32) (0 : Int32) H locs ls h hP hS (lv_sub hl [2, 1, 0] rfl)
    · rw [if_neg c3] at h
      refine lv_fconst0 hx hb dX10_lostShare_25 ?_
      exact W.fret (v := FP.fconst0) hx hb hr (fw_ew (mk := Value.float) h hP hS) hS.2.2 dX10_lostShare_26
  have EN : ∀ (H : Heap) (locs : List Loc) (ls : Array Slot), fw_P E o d μ H → va_S (fw_A E) s.heap H locs → lv_has ls 3 [(0, .ref (fw_ad E 0 18))] → W p l e (headSpec (fw_ws yX10_lostShare cX10_lostShare 3 (some .float)) ({ frames := 2, cells := 0, slots := 0, locals := 43 } : Room)).room s m args below meth c H locs 0 0 (MQ below (fw_Q E o d (some (.float r)) μ') args s 0 0 (fw_A E)) (F0 m 0 ls []) := by
    intro H locs ls hP hS hl
    unfold f_X10_lostShare at h
    refine lv_aload_n hx hb dX10_lostShare_0 rfl (lv_at hl 0 rfl) ?_
    refine lv_aload_n hx hb dX10_lostShare_1 rfl (lv_at hl 0 rfl) ?_
    refine va_get (D := fw_D E) (ci := 8) (v := .ref (fw_ad E 0 19)) (C := RX10) (T := TX10) (N := 20) hx hb hU inU10 hown hK (fw_at hP (fw_V0 (f := 18) (by decide) (by decide))) 0 rfl rfl 1 (by decide) (hU (Cond.fieldLink RX10 7 "LaundryServiceModel" "s" "[I") m_1118) (fun _ h9 => h9) rfl dX10_lostShare_2 ?_
    refine lv_iconst (v := (0 : Int32)) hx hb dX10_lostShare_5 (by decide) ?_
    refine va_iald (D := fw_D E) hx hb hK (fw_at hP (fw_V0 (f := 19) (by decide) (by decide))) 0 0 rfl rfl (fw_in_e (n := 104) (by decide)) dX10_lostShare_6 ?_
    refine lv_if_ne (tgt := 14) hx hb dX10_lostShare_7 (by decide) (fun c1 => ?_) (fun c1 => ?_)
    · rw [if_neg c1] at h
      refine lv_iconst (v := (0 : Int32)) hx hb dX10_lostShare_14 (by decide) ?_
      exact J15 μ (0 : Int32) H locs ls h hP hS (lv_sub hl [0] rfl)
    · rw [if_pos c1] at h
      refine lv_iconst (v := (1 : Int32)) hx hb dX10_lostShare_10 (by decide) ?_
      refine lv_goto (tgt := 15) hx hb dX10_lostShare_11 (by decide) ?_
      exact J15 μ (1 : Int32) H locs ls h hP hS (lv_sub hl [0] rfl)
  subst ha
  have hl := lv_entry ([.ref (fw_ad E 0 18)]) (n := 3) (Nat.le_of_ble_eq_true rfl)
  rw [lg_entry_eq]
  generalize (lg_sl ([.ref (fw_ad E 0 18)]) ++ List.replicate (3 - (lg_sl ([.ref (fw_ad E 0 18)])).length) Slot.unset).toArray = ls at hl ⊢
  exact EN s.heap [] ls hP va_S.rf hl
set_option maxHeartbeats 4000000 in
set_option maxRecDepth 100000 in
theorem k_X10_isConsistent (l : Launch) {E : fw_E} {o : Int64} {d : UInt64} (hE : fw_ok E) {μ μ' : fw_M} {r : Int32} (h : f_X10_isConsistent μ = some (μ', r)) : Met l yX10_isConsistent (fw_ws yX10_isConsistent cX10_isConsistent 1 (some .boolean)) ({ frames := 0, cells := 0, slots := 0, locals := 0 } : Room) (va_Pc [.ref (fw_ad E 0 18)] (fw_Pre E o d μ)) (fw_Q E o d (some (.int r)) μ') 0 0 (fw_A E) := by
  refine Met.ofW (cc := cX10_isConsistent) (maxL := 1) (ret := (some .boolean)) (by decide) rfl ?_
  intro p e s m args below meth c s₁ B hml hv
  obtain ⟨ha, hK, hP, hSt⟩ := hv
  have hx := B.exec
  have hb := B.bytes
  have hr := B.returns
  have hts := atoms_spec (ws := fw_ws yX10_isConsistent cX10_isConsistent 1 (some .boolean)) B.pre
  have hU : ∀ w ∈ fw_U, w.before args s = true := fun w hw => hts w (List.mem_cons_of_mem _ hw)
  have hown : s.vm.findClass RX10 = some m.cls := findClass_of_methodNamed B.named
  have hlocks := B.notSynchronized
  have EN : ∀ (H : Heap) (locs : List Loc) (ls : Array Slot), fw_P E o d μ H → va_S (fw_A E) s.heap H locs → lv_has ls 1 [(0, .ref (fw_ad E 0 18))] → W p l e (headSpec (fw_ws yX10_isConsistent cX10_isConsistent 1 (some .boolean)) ({ frames := 0, cells := 0, slots := 0, locals := 0 } : Room)).room s m args below meth c H locs 0 0 (MQ below (fw_Q E o d (some (.int r)) μ') args s 0 0 (fw_A E)) (F0 m 0 ls []) := by
    intro H locs ls hP hS hl
    unfold f_X10_isConsistent at h
    refine lv_aload_n hx hb dX10_isConsistent_0 rfl (lv_at hl 0 rfl) ?_
    refine lv_iconst (v := (0 : Int32)) hx hb dX10_isConsistent_1 (by decide) ?_
    refine fw_put (ci := 8) (v := .int (0 : Int32)) (ty := .int) (C := RX10) (T := TX10) (N := 20) hx hb hU inU10 tyX10 tyX10_ok nmX10 hown hK hP hE hS (fw_V0 (f := 18) (by decide) (by decide)) rfl rfl 0 (by decide) (hU (Cond.fieldLink RX10 41 "LaundryServiceModel" "thrown" "I") m_1117) (fun _ h9 => h9) rfl (by decide +kernel) rfl rfl (Nat.le_of_ble_eq_true rfl) 0 (0 : Int32) (by rw [fw_u_c]; rfl) dX10_isConsistent_2 (fun H locs hP hS => ?_)
    obtain ⟨μ1, eμ1, h⟩ := fw_l_e h
    rw [← eμ1] at hP
    refine lv_iconst (v := (1 : Int32)) hx hb dX10_isConsistent_5 (by decide) ?_
    exact W.zret (v := (1 : Int32)) hx hb hr rfl (fw_ew (mk := Value.int) h hP hS) hS.2.2 dX10_isConsistent_6
  subst ha
  have hl := lv_entry ([.ref (fw_ad E 0 18)]) (n := 1) (Nat.le_of_ble_eq_true rfl)
  rw [lg_entry_eq]
  generalize (lg_sl ([.ref (fw_ad E 0 18)]) ++ List.replicate (1 - (lg_sl ([.ref (fw_ad E 0 18)])).length) Slot.unset).toArray = ls at hl ⊢
  exact EN s.heap [] ls hP va_S.rf hl
set_option maxHeartbeats 4000000 in
set_option maxRecDepth 100000 in
theorem k_X10_feed (l : Launch) {E : fw_E} {o : Int64} {d : UInt64} (hE : fw_ok E) {μ μ' : fw_M} (x1 : Int32) {r : Int32} (h : f_X10_feed μ x1 = some (μ', r)) : Met l yX10_feed (fw_ws yX10_feed cX10_feed 2 (some .int)) ({ frames := 0, cells := 0, slots := 0, locals := 0 } : Room) (va_Pc [.ref (fw_ad E 0 18), .int x1] (fw_Pre E o d μ)) (fw_Q E o d (some (.int r)) μ') 0 0 (fw_A E) := by
  refine Met.ofW (cc := cX10_feed) (maxL := 2) (ret := (some .int)) (by decide) rfl ?_
  intro p e s m args below meth c s₁ B hml hv
  obtain ⟨ha, hK, hP, hSt⟩ := hv
  have hx := B.exec
  have hb := B.bytes
  have hr := B.returns
  have hts := atoms_spec (ws := fw_ws yX10_feed cX10_feed 2 (some .int)) B.pre
  have hU : ∀ w ∈ fw_U, w.before args s = true := fun w hw => hts w (List.mem_cons_of_mem _ hw)
  have hown : s.vm.findClass RX10 = some m.cls := findClass_of_methodNamed B.named
  have hlocks := B.notSynchronized
  have J15 : ∀ (μ : fw_M) (x1 : Int32) (s1 : Int32) (H : Heap) (locs : List Loc) (ls : Array Slot), f_X10_feed_J15 μ x1 s1 = some (μ', r) → fw_P E o d μ H → va_S (fw_A E) s.heap H locs → lv_has ls 2 [(0, .ref (fw_ad E 0 18)), (1, .int x1)] → W p l e (headSpec (fw_ws yX10_feed cX10_feed 2 (some .int)) ({ frames := 0, cells := 0, slots := 0, locals := 0 } : Room)).room s m args below meth c H locs 0 0 (MQ below (fw_Q E o d (some (.int r)) μ') args s 0 0 (fw_A E)) (F0 m 15 ls [.int s1, .ref (fw_ad E 0 18)]) := by
    intro μ x1 s1 H locs ls h hP hS hl
    unfold f_X10_feed_J15 at h
    refine fw_put (ci := 8) (v := .int s1) (ty := .int) (C := RX10) (T := TX10) (N := 20) hx hb hU inU10 tyX10 tyX10_ok nmX10 hown hK hP hE hS (fw_V0 (f := 18) (by decide) (by decide)) rfl rfl 0 (by decide) (hU (Cond.fieldLink RX10 41 "LaundryServiceModel" "thrown" "I") m_1117) (fun _ h9 => h9) rfl (by decide +kernel) rfl rfl (Nat.le_of_ble_eq_true rfl) 0 s1 (by rw [fw_u_c]; rfl) dX10_feed_15 (fun H locs hP hS => ?_)
    obtain ⟨μ2, eμ2, h⟩ := fw_l_e h
    rw [← eμ2] at hP
    refine lv_aload_n hx hb dX10_feed_18 rfl (lv_at hl 0 rfl) ?_
    refine va_get (D := fw_D E) (ci := 8) (v := .int (μ2 0 18 0)) (C := RX10) (T := TX10) (N := 20) hx hb hU inU10 hown hK (fw_at hP (fw_V0 (f := 18) (by decide) (by decide))) 0 rfl rfl 0 (by decide) (hU (Cond.fieldLink RX10 41 "LaundryServiceModel" "thrown" "I") m_1117) (fun _ h9 => h9) rfl dX10_feed_19 ?_
    refine lv_if_le (tgt := 27) hx hb dX10_feed_22 (by decide) (fun c3 => ?_) (fun c3 => ?_)
    · rw [if_pos c3] at h
      refine lv_aload_n hx hb dX10_feed_27 rfl (lv_at hl 0 rfl) ?_
      refine va_get (D := fw_D E) (ci := 8) (v := .ref (fw_ad E 0 23)) (C := RX10) (T := TX10) (N := 20) hx hb hU inU10 hown hK (fw_at hP (fw_V0 (f := 18) (by decide) (by decide))) 0 rfl rfl 7 (by decide) (hU (Cond.fieldLink RX10 22 "LaundryServiceModel" "text" "[I") m_1124) (fun _ h9 => h9) rfl dX10_feed_28 ?_
      refine lv_aload_n hx hb dX10_feed_31 rfl (lv_at hl 0 rfl) ?_
      refine va_get (D := fw_D E) (ci := 8) (v := .int (μ2 0 18 11)) (C := RX10) (T := TX10) (N := 20) hx hb hU inU10 hown hK (fw_at hP (fw_V0 (f := 18) (by decide) (by decide))) 0 rfl rfl 11 (by decide) (hU (Cond.fieldLink RX10 188 "LaundryServiceModel" "length" "I") m_1128) (fun _ h9 => h9) rfl dX10_feed_32 ?_
      refine lv_iload_n hx hb dX10_feed_35 rfl (lv_at hl 1 rfl) ?_
      obtain ⟨g4, h⟩ := fw_g_e h
      refine fw_iast (n := 60) hx hb hK hP hE hS (fw_V0 (f := 23) (by decide) (by decide)) (fun _ => rfl) (fw_in_e g4) dX10_feed_36 (fun H locs hP hS => ?_)
      obtain ⟨μ5, eμ5, h⟩ := fw_l_e h
      rw [← eμ5] at hP
      refine lv_aload_n hx hb dX10_feed_37 rfl (lv_at hl 0 rfl) ?_
      refine lv_dup hx hb dX10_feed_38 rfl ?_
      refine va_get (D := fw_D E) (ci := 8) (v := .int (μ5 0 18 11)) (C := RX10) (T := TX10) (N := 20) hx hb hU inU10 hown hK (fw_at hP (fw_V0 (f := 18) (by decide) (by decide))) 0 rfl rfl 11 (by decide) (hU (Cond.fieldLink RX10 188 "LaundryServiceModel" "length" "I") m_1128) (fun _ h9 => h9) rfl dX10_feed_39 ?_
      refine lv_iconst (v := (1 : Int32)) hx hb dX10_feed_42 (by decide) ?_
      refine lv_iadd hx hb dX10_feed_43 ?_
      refine fw_put (ci := 8) (v := .int ((μ5 0 18 11) + (1 : Int32))) (ty := .int) (C := RX10) (T := TX10) (N := 20) hx hb hU inU10 tyX10 tyX10_ok nmX10 hown hK hP hE hS (fw_V0 (f := 18) (by decide) (by decide)) rfl rfl 11 (by decide) (hU (Cond.fieldLink RX10 188 "LaundryServiceModel" "length" "I") m_1128) (fun _ h9 => h9) rfl (by decide +kernel) rfl rfl (Nat.le_of_ble_eq_true rfl) 11 ((μ5 0 18 11) + (1 : Int32)) (by rw [fw_u_c]; rfl) dX10_feed_44 (fun H locs hP hS => ?_)
      obtain ⟨μ6, eμ6, h⟩ := fw_l_e h
      rw [← eμ6] at hP
      refine lv_aload_n hx hb dX10_feed_47 rfl (lv_at hl 0 rfl) ?_
      refine va_get (D := fw_D E) (ci := 8) (v := .int (μ6 0 18 11)) (C := RX10) (T := TX10) (N := 20) hx hb hU inU10 hown hK (fw_at hP (fw_V0 (f := 18) (by decide) (by decide))) 0 rfl rfl 11 (by decide) (hU (Cond.fieldLink RX10 188 "LaundryServiceModel" "length" "I") m_1128) (fun _ h9 => h9) rfl dX10_feed_48 ?_
      exact W.iret (v := (μ6 0 18 11)) hx hb hr (fw_ew (mk := Value.int) h hP hS) hS.2.2 dX10_feed_51
    · rw [if_neg c3] at h
      refine lv_iconst (v := (0 : Int32)) hx hb dX10_feed_25 (by decide) ?_
      exact W.iret (v := (0 : Int32)) hx hb hr (fw_ew (mk := Value.int) h hP hS) hS.2.2 dX10_feed_26
  have EN : ∀ (H : Heap) (locs : List Loc) (ls : Array Slot), fw_P E o d μ H → va_S (fw_A E) s.heap H locs → lv_has ls 2 [(0, .ref (fw_ad E 0 18)), (1, .int x1)] → W p l e (headSpec (fw_ws yX10_feed cX10_feed 2 (some .int)) ({ frames := 0, cells := 0, slots := 0, locals := 0 } : Room)).room s m args below meth c H locs 0 0 (MQ below (fw_Q E o d (some (.int r)) μ') args s 0 0 (fw_A E)) (F0 m 0 ls []) := by
    intro H locs ls hP hS hl
    unfold f_X10_feed at h
    refine lv_aload_n hx hb dX10_feed_0 rfl (lv_at hl 0 rfl) ?_
    refine lv_aload_n hx hb dX10_feed_1 rfl (lv_at hl 0 rfl) ?_
    refine va_get (D := fw_D E) (ci := 8) (v := .int (μ 0 18 11)) (C := RX10) (T := TX10) (N := 20) hx hb hU inU10 hown hK (fw_at hP (fw_V0 (f := 18) (by decide) (by decide))) 0 rfl rfl 11 (by decide) (hU (Cond.fieldLink RX10 188 "LaundryServiceModel" "length" "I") m_1128) (fun _ h9 => h9) rfl dX10_feed_2 ?_
    refine lv_bipush (v := (60 : Int32)) hx hb dX10_feed_5 (by decide) ?_
    refine lv_icmp_ne (tgt := 14) hx hb dX10_feed_7 (by decide) (fun c1 => ?_) (fun c1 => ?_)
    · rw [if_neg c1] at h
      refine lv_iconst (v := (0 : Int32)) hx hb dX10_feed_14 (by decide) ?_
      exact J15 μ x1 (0 : Int32) H locs ls h hP hS (lv_sub hl [0, 1] rfl)
    · rw [if_pos c1] at h
      refine lv_iconst (v := (1 : Int32)) hx hb dX10_feed_10 (by decide) ?_
      refine lv_goto (tgt := 15) hx hb dX10_feed_11 (by decide) ?_
      exact J15 μ x1 (1 : Int32) H locs ls h hP hS (lv_sub hl [0, 1] rfl)
  subst ha
  have hl := lv_entry ([.ref (fw_ad E 0 18), .int x1]) (n := 2) (Nat.le_of_ble_eq_true rfl)
  rw [lg_entry_eq]
  generalize (lg_sl ([.ref (fw_ad E 0 18), .int x1]) ++ List.replicate (2 - (lg_sl ([.ref (fw_ad E 0 18), .int x1])).length) Slot.unset).toArray = ls at hl ⊢
  exact EN s.heap [] ls hP va_S.rf hl
set_option maxHeartbeats 4000000 in
set_option maxRecDepth 100000 in
theorem k_X10_here (l : Launch) {E : fw_E} {o : Int64} {d : UInt64} (hE : fw_ok E) {μ : fw_M} (x1 : Int32) {r : Int32} (h : f_X10_here μ x1 = some r) : Met l yX10_here (fw_ws yX10_here cX10_here 2 (some .int)) ({ frames := 0, cells := 0, slots := 0, locals := 0 } : Room) (va_Pc [.ref (fw_ad E 0 18), .int x1] (fw_Pre E o d μ)) (fw_Q E o d (some (.int r)) μ) 0 0 (fw_A E) := by
  refine Met.ofW (cc := cX10_here) (maxL := 2) (ret := (some .int)) (by decide) rfl ?_
  intro p e s m args below meth c s₁ B hml hv
  obtain ⟨ha, hK, hP, hSt⟩ := hv
  have hx := B.exec
  have hb := B.bytes
  have hr := B.returns
  have hts := atoms_spec (ws := fw_ws yX10_here cX10_here 2 (some .int)) B.pre
  have hU : ∀ w ∈ fw_U, w.before args s = true := fun w hw => hts w (List.mem_cons_of_mem _ hw)
  have hown : s.vm.findClass RX10 = some m.cls := findClass_of_methodNamed B.named
  have hlocks := B.notSynchronized
  have EN : ∀ (H : Heap) (locs : List Loc) (ls : Array Slot), fw_P E o d μ H → va_S (fw_A E) s.heap H locs → lv_has ls 2 [(0, .ref (fw_ad E 0 18)), (1, .int x1)] → W p l e (headSpec (fw_ws yX10_here cX10_here 2 (some .int)) ({ frames := 0, cells := 0, slots := 0, locals := 0 } : Room)).room s m args below meth c H locs 0 0 (MQ below (fw_Q E o d (some (.int r)) μ) args s 0 0 (fw_A E)) (F0 m 0 ls []) := by
    intro H locs ls hP hS hl
    unfold f_X10_here at h
    refine lv_aload_n hx hb dX10_here_0 rfl (lv_at hl 0 rfl) ?_
    refine va_get (D := fw_D E) (ci := 8) (v := .int (μ 0 18 16)) (C := RX10) (T := TX10) (N := 20) hx hb hU inU10 hown hK (fw_at hP (fw_V0 (f := 18) (by decide) (by decide))) 0 rfl rfl 16 (by decide) (hU (Cond.fieldLink RX10 191 "LaundryServiceModel" "spot" "I") m_1133) (fun _ h9 => h9) rfl dX10_here_1 ?_
    refine lv_iload_n hx hb dX10_here_4 rfl (lv_at hl 1 rfl) ?_
    refine lv_iadd hx hb dX10_here_5 ?_
    refine lv_aload_n hx hb dX10_here_6 rfl (lv_at hl 0 rfl) ?_
    refine va_get (D := fw_D E) (ci := 8) (v := .int (μ 0 18 17)) (C := RX10) (T := TX10) (N := 20) hx hb hU inU10 hown hK (fw_at hP (fw_V0 (f := 18) (by decide) (by decide))) 0 rfl rfl 17 (by decide) (hU (Cond.fieldLink RX10 194 "LaundryServiceModel" "end" "I") m_1134) (fun _ h9 => h9) rfl dX10_here_7 ?_
    refine lv_icmp_ge (tgt := 27) hx hb dX10_here_10 (by decide) (fun c1 => ?_) (fun c1 => ?_)
    · rw [if_pos c1] at h
      refine lv_iconst (v := (-1 : Int32)) hx hb dX10_here_27 (by decide) ?_
      exact W.iret (v := (-1 : Int32)) hx hb hr (fw_er (mk := Value.int) h hP hS) hS.2.2 dX10_here_28
    · rw [if_neg c1] at h
      refine lv_aload_n hx hb dX10_here_13 rfl (lv_at hl 0 rfl) ?_
      refine va_get (D := fw_D E) (ci := 8) (v := .ref (fw_ad E 0 23)) (C := RX10) (T := TX10) (N := 20) hx hb hU inU10 hown hK (fw_at hP (fw_V0 (f := 18) (by decide) (by decide))) 0 rfl rfl 7 (by decide) (hU (Cond.fieldLink RX10 22 "LaundryServiceModel" "text" "[I") m_1124) (fun _ h9 => h9) rfl dX10_here_14 ?_
      refine lv_aload_n hx hb dX10_here_17 rfl (lv_at hl 0 rfl) ?_
      refine va_get (D := fw_D E) (ci := 8) (v := .int (μ 0 18 16)) (C := RX10) (T := TX10) (N := 20) hx hb hU inU10 hown hK (fw_at hP (fw_V0 (f := 18) (by decide) (by decide))) 0 rfl rfl 16 (by decide) (hU (Cond.fieldLink RX10 191 "LaundryServiceModel" "spot" "I") m_1133) (fun _ h9 => h9) rfl dX10_here_18 ?_
      refine lv_iload_n hx hb dX10_here_21 rfl (lv_at hl 1 rfl) ?_
      refine lv_iadd hx hb dX10_here_22 ?_
      obtain ⟨g2, h⟩ := fw_g_e h
      refine va_iald (D := fw_D E) hx hb hK (fw_at hP (fw_V0 (f := 23) (by decide) (by decide))) 0 0 rfl rfl (fw_in_e g2) dX10_here_23 ?_
      refine lv_goto (tgt := 28) hx hb dX10_here_24 (by decide) ?_
      exact W.iret (v := (μ 0 23 ((μ 0 18 16) + x1).toNatClampNeg)) hx hb hr (fw_er (mk := Value.int) h hP hS) hS.2.2 dX10_here_28
  subst ha
  have hl := lv_entry ([.ref (fw_ad E 0 18), .int x1]) (n := 2) (Nat.le_of_ble_eq_true rfl)
  rw [lg_entry_eq]
  generalize (lg_sl ([.ref (fw_ad E 0 18), .int x1]) ++ List.replicate (2 - (lg_sl ([.ref (fw_ad E 0 18), .int x1])).length) Slot.unset).toArray = ls at hl ⊢
  exact EN s.heap [] ls hP va_S.rf hl
set_option maxHeartbeats 4000000 in
set_option maxRecDepth 100000 in
theorem k_X10_errorPosition (l : Launch) {E : fw_E} {o : Int64} {d : UInt64} (hE : fw_ok E) {μ μ' : fw_M} {r : Int32} (h : f_X10_errorPosition μ = some (μ', r)) : Met l yX10_errorPosition (fw_ws yX10_errorPosition cX10_errorPosition 1 (some .int)) ({ frames := 1, cells := 0, slots := 0, locals := 21 } : Room) (va_Pc [.ref (fw_ad E 0 18)] (fw_Pre E o d μ)) (fw_Q E o d (some (.int r)) μ') 0 0 (fw_A E) := by
  refine Met.ofW (cc := cX10_errorPosition) (maxL := 1) (ret := (some .int)) (by decide) rfl ?_
  intro p e s m args below meth c s₁ B hml hv
  obtain ⟨ha, hK, hP, hSt⟩ := hv
  have hx := B.exec
  have hb := B.bytes
  have hr := B.returns
  have hts := atoms_spec (ws := fw_ws yX10_errorPosition cX10_errorPosition 1 (some .int)) B.pre
  have hU : ∀ w ∈ fw_U, w.before args s = true := fun w hw => hts w (List.mem_cons_of_mem _ hw)
  have hown : s.vm.findClass RX10 = some m.cls := findClass_of_methodNamed B.named
  have hlocks := B.notSynchronized
  have EN : ∀ (H : Heap) (locs : List Loc) (ls : Array Slot), fw_P E o d μ H → va_S (fw_A E) s.heap H locs → lv_has ls 1 [(0, .ref (fw_ad E 0 18))] → W p l e (headSpec (fw_ws yX10_errorPosition cX10_errorPosition 1 (some .int)) ({ frames := 1, cells := 0, slots := 0, locals := 21 } : Room)).room s m args below meth c H locs 0 0 (MQ below (fw_Q E o d (some (.int r)) μ') args s 0 0 (fw_A E)) (F0 m 0 ls []) := by
    intro H locs ls hP hS hl
    unfold f_X10_errorPosition at h
    refine lv_aload_n hx hb dX10_errorPosition_0 rfl (lv_at hl 0 rfl) ?_
    refine lv_iconst (v := (0 : Int32)) hx hb dX10_errorPosition_1 (by decide) ?_
    refine fw_put (ci := 8) (v := .int (0 : Int32)) (ty := .int) (C := RX10) (T := TX10) (N := 20) hx hb hU inU10 tyX10 tyX10_ok nmX10 hown hK hP hE hS (fw_V0 (f := 18) (by decide) (by decide)) rfl rfl 0 (by decide) (hU (Cond.fieldLink RX10 41 "LaundryServiceModel" "thrown" "I") m_1117) (fun _ h9 => h9) rfl (by decide +kernel) rfl rfl (Nat.le_of_ble_eq_true rfl) 0 (0 : Int32) (by rw [fw_u_c]; rfl) dX10_errorPosition_2 (fun H locs hP hS => ?_)
    obtain ⟨μ1, eμ1, h⟩ := fw_l_e h
    rw [← eμ1] at hP
    refine lv_aload_n hx hb dX10_errorPosition_5 rfl (lv_at hl 0 rfl) ?_
    refine va_get (D := fw_D E) (ci := 8) (v := .int (μ1 0 18 13)) (C := RX10) (T := TX10) (N := 20) hx hb hU inU10 hown hK (fw_at hP (fw_V0 (f := 18) (by decide) (by decide))) 0 rfl rfl 13 (by decide) (hU (Cond.fieldLink RX10 34 "LaundryServiceModel" "faultAt" "I") m_1130) (fun _ h9 => h9) rfl dX10_errorPosition_6 ?_
    refine lv_iconst (v := (-1 : Int32)) hx hb dX10_errorPosition_9 (by decide) ?_
    refine lv_icmp_ne (tgt := 21) hx hb dX10_errorPosition_10 (by decide) (fun c2 => ?_) (fun c2 => ?_)
    · rw [if_neg c2] at h
      refine lv_aload_n hx hb dX10_errorPosition_21 rfl (lv_at hl 0 rfl) ?_
      refine va_get (D := fw_D E) (ci := 8) (v := .int (μ1 0 18 13)) (C := RX10) (T := TX10) (N := 20) hx hb hU inU10 hown hK (fw_at hP (fw_V0 (f := 18) (by decide) (by decide))) 0 rfl rfl 13 (by decide) (hU (Cond.fieldLink RX10 34 "LaundryServiceModel" "faultAt" "I") m_1130) (fun _ h9 => h9) rfl dX10_errorPosition_22 ?_
      exact W.iret (v := (μ1 0 18 13)) hx hb hr (fw_ew (mk := Value.int) h hP hS) hS.2.2 dX10_errorPosition_25
    · rw [if_pos c2] at h
      refine lv_aload_n hx hb dX10_errorPosition_13 rfl (lv_at hl 0 rfl) ?_
      refine lv_iconst (v := (1 : Int32)) hx hb dX10_errorPosition_14 (by decide) ?_
      obtain ⟨μ3, r3, hc3, h⟩ := fw_b2_e h
      refine fw_ret (va_runV (As := [.int (1 : Int32)]) (rest := []) ⟨hx, hb, hml, hown, hU⟩ (k_X10_fails l hE (1 : Int32) hc3) (cwV 1 hU (fw_gV m_1216 m_1218 ms_17 m_9 m_1219) rfl rfl rfl (by decide +kernel) ⟨(Nat.le_of_ble_eq_true rfl), (Nat.le_of_ble_eq_true rfl)⟩) ⟨fw_blind, fw_recv hK hP (fw_V0 (f := 18) (by decide) (by decide)) rfl rfl, fun U hU9 hW9 => ⟨rfl, fw_pre hK hP hSt hS U hU9 hW9⟩⟩ rfl rfl hl.1 rfl (lv_room (Nat.le_of_ble_eq_true rfl)) dX10_errorPosition_15 ⟨Nat.zero_le _, Nat.zero_le _⟩) hS (fun H locs hP hS => ?_)
      refine lv_goto (tgt := 25) hx hb dX10_errorPosition_18 (by decide) ?_
      exact W.iret (v := r3) hx hb hr (fw_ew (mk := Value.int) h hP hS) hS.2.2 dX10_errorPosition_25
  subst ha
  have hl := lv_entry ([.ref (fw_ad E 0 18)]) (n := 1) (Nat.le_of_ble_eq_true rfl)
  rw [lg_entry_eq]
  generalize (lg_sl ([.ref (fw_ad E 0 18)]) ++ List.replicate (1 - (lg_sl ([.ref (fw_ad E 0 18)])).length) Slot.unset).toArray = ls at hl ⊢
  exact EN s.heap [] ls hP va_S.rf hl
set_option maxHeartbeats 4000000 in
set_option maxRecDepth 100000 in
theorem k_X10_failedCommand (l : Launch) {E : fw_E} {o : Int64} {d : UInt64} (hE : fw_ok E) {μ μ' : fw_M} {r : Int32} (h : f_X10_failedCommand μ = some (μ', r)) : Met l yX10_failedCommand (fw_ws yX10_failedCommand cX10_failedCommand 1 (some .int)) ({ frames := 1, cells := 0, slots := 0, locals := 21 } : Room) (va_Pc [.ref (fw_ad E 0 18)] (fw_Pre E o d μ)) (fw_Q E o d (some (.int r)) μ') 0 0 (fw_A E) := by
  refine Met.ofW (cc := cX10_failedCommand) (maxL := 1) (ret := (some .int)) (by decide) rfl ?_
  intro p e s m args below meth c s₁ B hml hv
  obtain ⟨ha, hK, hP, hSt⟩ := hv
  have hx := B.exec
  have hb := B.bytes
  have hr := B.returns
  have hts := atoms_spec (ws := fw_ws yX10_failedCommand cX10_failedCommand 1 (some .int)) B.pre
  have hU : ∀ w ∈ fw_U, w.before args s = true := fun w hw => hts w (List.mem_cons_of_mem _ hw)
  have hown : s.vm.findClass RX10 = some m.cls := findClass_of_methodNamed B.named
  have hlocks := B.notSynchronized
  have EN : ∀ (H : Heap) (locs : List Loc) (ls : Array Slot), fw_P E o d μ H → va_S (fw_A E) s.heap H locs → lv_has ls 1 [(0, .ref (fw_ad E 0 18))] → W p l e (headSpec (fw_ws yX10_failedCommand cX10_failedCommand 1 (some .int)) ({ frames := 1, cells := 0, slots := 0, locals := 21 } : Room)).room s m args below meth c H locs 0 0 (MQ below (fw_Q E o d (some (.int r)) μ') args s 0 0 (fw_A E)) (F0 m 0 ls []) := by
    intro H locs ls hP hS hl
    unfold f_X10_failedCommand at h
    refine lv_aload_n hx hb dX10_failedCommand_0 rfl (lv_at hl 0 rfl) ?_
    refine lv_iconst (v := (0 : Int32)) hx hb dX10_failedCommand_1 (by decide) ?_
    refine fw_put (ci := 8) (v := .int (0 : Int32)) (ty := .int) (C := RX10) (T := TX10) (N := 20) hx hb hU inU10 tyX10 tyX10_ok nmX10 hown hK hP hE hS (fw_V0 (f := 18) (by decide) (by decide)) rfl rfl 0 (by decide) (hU (Cond.fieldLink RX10 41 "LaundryServiceModel" "thrown" "I") m_1117) (fun _ h9 => h9) rfl (by decide +kernel) rfl rfl (Nat.le_of_ble_eq_true rfl) 0 (0 : Int32) (by rw [fw_u_c]; rfl) dX10_failedCommand_2 (fun H locs hP hS => ?_)
    obtain ⟨μ1, eμ1, h⟩ := fw_l_e h
    rw [← eμ1] at hP
    refine lv_aload_n hx hb dX10_failedCommand_5 rfl (lv_at hl 0 rfl) ?_
    refine va_get (D := fw_D E) (ci := 8) (v := .int (μ1 0 18 14)) (C := RX10) (T := TX10) (N := 20) hx hb hU inU10 hown hK (fw_at hP (fw_V0 (f := 18) (by decide) (by decide))) 0 rfl rfl 14 (by decide) (hU (Cond.fieldLink RX10 38 "LaundryServiceModel" "failedAt" "I") m_1131) (fun _ h9 => h9) rfl dX10_failedCommand_6 ?_
    refine lv_iconst (v := (-1 : Int32)) hx hb dX10_failedCommand_9 (by decide) ?_
    refine lv_icmp_ne (tgt := 21) hx hb dX10_failedCommand_10 (by decide) (fun c2 => ?_) (fun c2 => ?_)
    · rw [if_neg c2] at h
      refine lv_aload_n hx hb dX10_failedCommand_21 rfl (lv_at hl 0 rfl) ?_
      refine va_get (D := fw_D E) (ci := 8) (v := .int (μ1 0 18 14)) (C := RX10) (T := TX10) (N := 20) hx hb hU inU10 hown hK (fw_at hP (fw_V0 (f := 18) (by decide) (by decide))) 0 rfl rfl 14 (by decide) (hU (Cond.fieldLink RX10 38 "LaundryServiceModel" "failedAt" "I") m_1131) (fun _ h9 => h9) rfl dX10_failedCommand_22 ?_
      exact W.iret (v := (μ1 0 18 14)) hx hb hr (fw_ew (mk := Value.int) h hP hS) hS.2.2 dX10_failedCommand_25
    · rw [if_pos c2] at h
      refine lv_aload_n hx hb dX10_failedCommand_13 rfl (lv_at hl 0 rfl) ?_
      refine lv_iconst (v := (1 : Int32)) hx hb dX10_failedCommand_14 (by decide) ?_
      obtain ⟨μ3, r3, hc3, h⟩ := fw_b2_e h
      refine fw_ret (va_runV (As := [.int (1 : Int32)]) (rest := []) ⟨hx, hb, hml, hown, hU⟩ (k_X10_fails l hE (1 : Int32) hc3) (cwV 1 hU (fw_gV m_1216 m_1218 ms_17 m_9 m_1219) rfl rfl rfl (by decide +kernel) ⟨(Nat.le_of_ble_eq_true rfl), (Nat.le_of_ble_eq_true rfl)⟩) ⟨fw_blind, fw_recv hK hP (fw_V0 (f := 18) (by decide) (by decide)) rfl rfl, fun U hU9 hW9 => ⟨rfl, fw_pre hK hP hSt hS U hU9 hW9⟩⟩ rfl rfl hl.1 rfl (lv_room (Nat.le_of_ble_eq_true rfl)) dX10_failedCommand_15 ⟨Nat.zero_le _, Nat.zero_le _⟩) hS (fun H locs hP hS => ?_)
      refine lv_goto (tgt := 25) hx hb dX10_failedCommand_18 (by decide) ?_
      exact W.iret (v := r3) hx hb hr (fw_ew (mk := Value.int) h hP hS) hS.2.2 dX10_failedCommand_25
  subst ha
  have hl := lv_entry ([.ref (fw_ad E 0 18)]) (n := 1) (Nat.le_of_ble_eq_true rfl)
  rw [lg_entry_eq]
  generalize (lg_sl ([.ref (fw_ad E 0 18)]) ++ List.replicate (1 - (lg_sl ([.ref (fw_ad E 0 18)])).length) Slot.unset).toArray = ls at hl ⊢
  exact EN s.heap [] ls hP va_S.rf hl
set_option maxHeartbeats 4000000 in
set_option maxRecDepth 100000 in
theorem k_X10_writes (l : Launch) {E : fw_E} {o : Int64} {d : UInt64} (hE : fw_ok E) {μ μ' : fw_M} (x1 : Int32) {r : Unit} (h : f_X10_writes μ x1 = some (μ', r)) : Met l yX10_writes (fw_ws yX10_writes cX10_writes 2 none) ({ frames := 0, cells := 0, slots := 0, locals := 0 } : Room) (va_Pc [.ref (fw_ad E 0 18), .int x1] (fw_Pre E o d μ)) (fw_Q E o d none μ') 0 0 (fw_A E) := by
  refine Met.ofW (cc := cX10_writes) (maxL := 2) (ret := none) (by decide) rfl ?_
  intro p e s m args below meth c s₁ B hml hv
  obtain ⟨ha, hK, hP, hSt⟩ := hv
  have hx := B.exec
  have hb := B.bytes
  have hr := B.returns
  have hts := atoms_spec (ws := fw_ws yX10_writes cX10_writes 2 none) B.pre
  have hU : ∀ w ∈ fw_U, w.before args s = true := fun w hw => hts w (List.mem_cons_of_mem _ hw)
  have hown : s.vm.findClass RX10 = some m.cls := findClass_of_methodNamed B.named
  have hlocks := B.notSynchronized
  have EN : ∀ (H : Heap) (locs : List Loc) (ls : Array Slot), fw_P E o d μ H → va_S (fw_A E) s.heap H locs → lv_has ls 2 [(0, .ref (fw_ad E 0 18)), (1, .int x1)] → W p l e (headSpec (fw_ws yX10_writes cX10_writes 2 none) ({ frames := 0, cells := 0, slots := 0, locals := 0 } : Room)).room s m args below meth c H locs 0 0 (MQ below (fw_Q E o d none μ') args s 0 0 (fw_A E)) (F0 m 0 ls []) := by
    intro H locs ls hP hS hl
    unfold f_X10_writes at h
    refine lv_aload_n hx hb dX10_writes_0 rfl (lv_at hl 0 rfl) ?_
    refine va_get (D := fw_D E) (ci := 8) (v := .ref (fw_ad E 0 25)) (C := RX10) (T := TX10) (N := 20) hx hb hU inU10 hown hK (fw_at hP (fw_V0 (f := 18) (by decide) (by decide))) 0 rfl rfl 9 (by decide) (hU (Cond.fieldLink RX10 28 "LaundryServiceModel" "out" "[I") m_1126) (fun _ h9 => h9) rfl dX10_writes_1 ?_
    refine lv_aload_n hx hb dX10_writes_4 rfl (lv_at hl 0 rfl) ?_
    refine va_get (D := fw_D E) (ci := 8) (v := .int (μ 0 18 12)) (C := RX10) (T := TX10) (N := 20) hx hb hU inU10 hown hK (fw_at hP (fw_V0 (f := 18) (by decide) (by decide))) 0 rfl rfl 12 (by decide) (hU (Cond.fieldLink RX10 241 "LaundryServiceModel" "outLength" "I") m_1129) (fun _ h9 => h9) rfl dX10_writes_5 ?_
    refine lv_iload_n hx hb dX10_writes_8 rfl (lv_at hl 1 rfl) ?_
    obtain ⟨g1, h⟩ := fw_g_e h
    refine fw_iast (n := 200) hx hb hK hP hE hS (fw_V0 (f := 25) (by decide) (by decide)) (fun _ => rfl) (fw_in_e g1) dX10_writes_9 (fun H locs hP hS => ?_)
    obtain ⟨μ2, eμ2, h⟩ := fw_l_e h
    rw [← eμ2] at hP
    refine lv_aload_n hx hb dX10_writes_10 rfl (lv_at hl 0 rfl) ?_
    refine lv_dup hx hb dX10_writes_11 rfl ?_
    refine va_get (D := fw_D E) (ci := 8) (v := .int (μ2 0 18 12)) (C := RX10) (T := TX10) (N := 20) hx hb hU inU10 hown hK (fw_at hP (fw_V0 (f := 18) (by decide) (by decide))) 0 rfl rfl 12 (by decide) (hU (Cond.fieldLink RX10 241 "LaundryServiceModel" "outLength" "I") m_1129) (fun _ h9 => h9) rfl dX10_writes_12 ?_
    refine lv_iconst (v := (1 : Int32)) hx hb dX10_writes_15 (by decide) ?_
    refine lv_iadd hx hb dX10_writes_16 ?_
    refine fw_put (ci := 8) (v := .int ((μ2 0 18 12) + (1 : Int32))) (ty := .int) (C := RX10) (T := TX10) (N := 20) hx hb hU inU10 tyX10 tyX10_ok nmX10 hown hK hP hE hS (fw_V0 (f := 18) (by decide) (by decide)) rfl rfl 12 (by decide) (hU (Cond.fieldLink RX10 241 "LaundryServiceModel" "outLength" "I") m_1129) (fun _ h9 => h9) rfl (by decide +kernel) rfl rfl (Nat.le_of_ble_eq_true rfl) 12 ((μ2 0 18 12) + (1 : Int32)) (by rw [fw_u_c]; rfl) dX10_writes_17 (fun H locs hP hS => ?_)
    obtain ⟨μ3, eμ3, h⟩ := fw_l_e h
    rw [← eμ3] at hP
    exact W.vret hx hb hr (fw_ev h hP hS) hS.2.2 dX10_writes_20
  subst ha
  have hl := lv_entry ([.ref (fw_ad E 0 18), .int x1]) (n := 2) (Nat.le_of_ble_eq_true rfl)
  rw [lg_entry_eq]
  generalize (lg_sl ([.ref (fw_ad E 0 18), .int x1]) ++ List.replicate (2 - (lg_sl ([.ref (fw_ad E 0 18), .int x1])).length) Slot.unset).toArray = ls at hl ⊢
  exact EN s.heap [] ls hP va_S.rf hl
set_option maxHeartbeats 4000000 in
set_option maxRecDepth 100000 in
theorem k_X10_writeBag (l : Launch) {E : fw_E} {o : Int64} {d : UInt64} (hE : fw_ok E) {μ μ' : fw_M} (x1 : Int32) {r : Int32} (h : f_X10_writeBag μ x1 = some (μ', r)) : Met l yX10_writeBag (fw_ws yX10_writeBag cX10_writeBag 4 (some .int)) ({ frames := 2, cells := 0, slots := 0, locals := 42 } : Room) (va_Pc [.ref (fw_ad E 0 18), .int x1] (fw_Pre E o d μ)) (fw_Q E o d (some (.int r)) μ') 0 0 (fw_A E) := by
  refine Met.ofW (cc := cX10_writeBag) (maxL := 4) (ret := (some .int)) (by decide) rfl ?_
  intro p e s m args below meth c s₁ B hml hv
  obtain ⟨ha, hK, hP, hSt⟩ := hv
  have hx := B.exec
  have hb := B.bytes
  have hr := B.returns
  have hts := atoms_spec (ws := fw_ws yX10_writeBag cX10_writeBag 4 (some .int)) B.pre
  have hU : ∀ w ∈ fw_U, w.before args s = true := fun w hw => hts w (List.mem_cons_of_mem _ hw)
  have hown : s.vm.findClass RX10 = some m.cls := findClass_of_methodNamed B.named
  have hlocks := B.notSynchronized
  have L32 : ∀ (n : Nat) (μ : fw_M) (x1 : Int32) (x2 : Int32) (H : Heap) (locs : List Loc) (ls : Array Slot), f_X10_writeBag_L32 n μ x1 x2 = some (μ', r) → fw_P E o d μ H → va_S (fw_A E) s.heap H locs → lv_has ls 4 [(0, .ref (fw_ad E 0 18)), (1, .int x1), (2, .int x2)] → W p l e (headSpec (fw_ws yX10_writeBag cX10_writeBag 4 (some .int)) ({ frames := 2, cells := 0, slots := 0, locals := 42 } : Room)).room s m args below meth c H locs 0 0 (MQ below (fw_Q E o d (some (.int r)) μ') args s 0 0 (fw_A E)) (F0 m 32 ls []) := by
    intro n32
    induction n32 with
    | zero => intro μ x1 x2 H locs ls h; rw [f_X10_writeBag_L32] at h; cases h
    | succ n32 ih32 =>
      have L121 : ∀ (n : Nat) (μ : fw_M) (x1 : Int32) (x2 : Int32) (x3 : Int32) (H : Heap) (locs : List Loc) (ls : Array Slot), f_X10_writeBag_L121 (f_X10_writeBag_L32 n32) n μ x1 x2 x3 = some (μ', r) → fw_P E o d μ H → va_S (fw_A E) s.heap H locs → lv_has ls 4 [(0, .ref (fw_ad E 0 18)), (1, .int x1), (2, .int x2), (3, .int x3)] → W p l e (headSpec (fw_ws yX10_writeBag cX10_writeBag 4 (some .int)) ({ frames := 2, cells := 0, slots := 0, locals := 42 } : Room)).room s m args below meth c H locs 0 0 (MQ below (fw_Q E o d (some (.int r)) μ') args s 0 0 (fw_A E)) (F0 m 121 ls []) := by
        intro n121
        induction n121 with
        | zero => intro μ x1 x2 x3 H locs ls h; rw [f_X10_writeBag_L121] at h; cases h
        | succ n121 ih121 =>
          intro μ x1 x2 x3 H locs ls h hP hS hl
          rw [f_X10_writeBag_L121] at h
          refine lv_iload_n hx hb dX10_writeBag_121 rfl (lv_at hl 3 rfl) ?_
          refine lv_if_le (tgt := 137) hx hb dX10_writeBag_122 (by decide) (fun c20 => ?_) (fun c20 => ?_)
          · rw [if_pos c20] at h
            refine lv_iinc (v := (x2 + (1 : Int32))) (lv' := [(2, .int (x2 + (1 : Int32))), (0, .ref (fw_ad E 0 18)), (1, .int x1), (3, .int x3)]) hx hb dX10_writeBag_137 hl (k := 2) rfl rfl (by decide) rfl (fun ls hl => ?_)
            refine lv_goto (tgt := 32) hx hb dX10_writeBag_140 (by decide) ?_
            exact ih32 μ x1 (x2 + (1 : Int32)) H locs ls h hP hS (lv_sub hl [1, 2, 0] rfl)
          · rw [if_neg c20] at h
            refine lv_aload_n hx hb dX10_writeBag_125 rfl (lv_at hl 0 rfl) ?_
            refine lv_bipush (v := (42 : Int32)) hx hb dX10_writeBag_126 (by decide) ?_
            obtain ⟨μ21, r21, hc21, h⟩ := fw_b2_e h
            refine fw_retv (va_runV (As := [.int (42 : Int32)]) (rest := []) ⟨hx, hb, hml, hown, hU⟩ (k_X10_writes l hE (42 : Int32) hc21) (cwV 1 hU (fw_gV m_1533 m_1535 ms_46 m_9 m_1536) rfl rfl rfl (by decide +kernel) ⟨(Nat.le_of_ble_eq_true rfl), (Nat.le_of_ble_eq_true rfl)⟩) ⟨fw_blind, fw_recv hK hP (fw_V0 (f := 18) (by decide) (by decide)) rfl rfl, fun U hU9 hW9 => ⟨rfl, fw_pre hK hP hSt hS U hU9 hW9⟩⟩ rfl rfl hl.1 rfl (lv_room (Nat.le_of_ble_eq_true rfl)) dX10_writeBag_128 ⟨Nat.zero_le _, Nat.zero_le _⟩) hS (fun H locs hP hS => ?_)
            refine lv_iinc (v := (x3 + (-1 : Int32))) (lv' := [(3, .int (x3 + (-1 : Int32))), (0, .ref (fw_ad E 0 18)), (1, .int x1), (2, .int x2)]) hx hb dX10_writeBag_131 hl (k := 3) rfl rfl (by decide) rfl (fun ls hl => ?_)
            refine lv_goto (tgt := 121) hx hb dX10_writeBag_134 (by decide) ?_
            exact ih121 μ21 x1 x2 (x3 + (-1 : Int32)) H locs ls h hP hS (lv_sub hl [1, 2, 3, 0] rfl)
      have J95 : ∀ (μ : fw_M) (x1 : Int32) (x2 : Int32) (s1 : Int32) (H : Heap) (locs : List Loc) (ls : Array Slot), f_X10_writeBag_J95 (f_X10_writeBag_L32 n32) μ x1 x2 s1 = some (μ', r) → fw_P E o d μ H → va_S (fw_A E) s.heap H locs → lv_has ls 4 [(0, .ref (fw_ad E 0 18)), (1, .int x1), (2, .int x2)] → W p l e (headSpec (fw_ws yX10_writeBag cX10_writeBag 4 (some .int)) ({ frames := 2, cells := 0, slots := 0, locals := 42 } : Room)).room s m args below meth c H locs 0 0 (MQ below (fw_Q E o d (some (.int r)) μ') args s 0 0 (fw_A E)) (F0 m 95 ls [.int s1, .ref (fw_ad E 0 18)]) := by
        intro μ x1 x2 s1 H locs ls h hP hS hl
        unfold f_X10_writeBag_J95 at h
        obtain ⟨μ15, r15, hc15, h⟩ := fw_b2_e h
        refine fw_retv (va_runV (As := [.int s1]) (rest := []) ⟨hx, hb, hml, hown, hU⟩ (k_X10_writes l hE s1 hc15) (cwV 1 hU (fw_gV m_1533 m_1535 ms_46 m_9 m_1536) rfl rfl rfl (by decide +kernel) ⟨(Nat.le_of_ble_eq_true rfl), (Nat.le_of_ble_eq_true rfl)⟩) ⟨fw_blind, fw_recv hK hP (fw_V0 (f := 18) (by decide) (by decide)) rfl rfl, fun U hU9 hW9 => ⟨rfl, fw_pre hK hP hSt hS U hU9 hW9⟩⟩ rfl rfl hl.1 rfl (lv_room (Nat.le_of_ble_eq_true rfl)) dX10_writeBag_95 ⟨Nat.zero_le _, Nat.zero_le _⟩) hS (fun H locs hP hS => ?_)
        refine lv_aload_n hx hb dX10_writeBag_98 rfl (lv_at hl 0 rfl) ?_
        refine lv_bipush (v := (48 : Int32)) hx hb dX10_writeBag_99 (by decide) ?_
        refine lv_aload_n hx hb dX10_writeBag_101 rfl (lv_at hl 0 rfl) ?_
        refine lv_iload_n hx hb dX10_writeBag_102 rfl (lv_at hl 2 rfl) ?_
        refine lv_iconst (v := (2 : Int32)) hx hb dX10_writeBag_103 (by decide) ?_
        obtain ⟨r16, hc16, h⟩ := fw_b1_e h
        refine fw_ret (va_runV (As := [.int x2, .int (2 : Int32)]) (rest := [.int (48 : Int32), .ref (fw_ad E 0 18)]) ⟨hx, hb, hml, hown, hU⟩ (k_X10_of l hE x2 (2 : Int32) hc16) (cwV 2 hU (fw_gV m_1235 m_1237 ms_20 m_9 m_1238) rfl rfl rfl (by decide +kernel) ⟨(Nat.le_of_ble_eq_true rfl), (Nat.le_of_ble_eq_true rfl)⟩) ⟨fw_blind, fw_recv hK hP (fw_V0 (f := 18) (by decide) (by decide)) rfl rfl, fun U hU9 hW9 => ⟨rfl, fw_pre hK hP hSt hS U hU9 hW9⟩⟩ rfl rfl hl.1 rfl (lv_room (Nat.le_of_ble_eq_true rfl)) dX10_writeBag_104 ⟨Nat.zero_le _, Nat.zero_le _⟩) hS (fun H locs hP hS => ?_)
        refine lv_iadd hx hb dX10_writeBag_107 ?_
        obtain ⟨μ17, r17, hc17, h⟩ := fw_b2_e h
        refine fw_retv (va_runV (As := [.int ((48 : Int32) + r16)]) (rest := []) ⟨hx, hb, hml, hown, hU⟩ (k_X10_writes l hE ((48 : Int32) + r16) hc17) (cwV 1 hU (fw_gV m_1533 m_1535 ms_46 m_9 m_1536) rfl rfl rfl (by decide +kernel) ⟨(Nat.le_of_ble_eq_true rfl), (Nat.le_of_ble_eq_true rfl)⟩) ⟨fw_blind, fw_recv hK hP (fw_V0 (f := 18) (by decide) (by decide)) rfl rfl, fun U hU9 hW9 => ⟨rfl, fw_pre hK hP hSt hS U hU9 hW9⟩⟩ rfl rfl hl.1 rfl (lv_room (Nat.le_of_ble_eq_true rfl)) dX10_writeBag_108 ⟨Nat.zero_le _, Nat.zero_le _⟩) hS (fun H locs hP hS => ?_)
        refine lv_aload_n hx hb dX10_writeBag_111 rfl (lv_at hl 0 rfl) ?_
        refine lv_iload_n hx hb dX10_writeBag_112 rfl (lv_at hl 2 rfl) ?_
        refine lv_iconst (v := (3 : Int32)) hx hb dX10_writeBag_113 (by decide) ?_
        obtain ⟨r18, hc18, h⟩ := fw_b1_e h
        refine fw_ret (va_runV (As := [.int x2, .int (3 : Int32)]) (rest := []) ⟨hx, hb, hml, hown, hU⟩ (k_X10_of l hE x2 (3 : Int32) hc18) (cwV 2 hU (fw_gV m_1235 m_1237 ms_20 m_9 m_1238) rfl rfl rfl (by decide +kernel) ⟨(Nat.le_of_ble_eq_true rfl), (Nat.le_of_ble_eq_true rfl)⟩) ⟨fw_blind, fw_recv hK hP (fw_V0 (f := 18) (by decide) (by decide)) rfl rfl, fun U hU9 hW9 => ⟨rfl, fw_pre hK hP hSt hS U hU9 hW9⟩⟩ rfl rfl hl.1 rfl (lv_room (Nat.le_of_ble_eq_true rfl)) dX10_writeBag_114 ⟨Nat.zero_le _, Nat.zero_le _⟩) hS (fun H locs hP hS => ?_)
        obtain ⟨r19, hc19, h⟩ := fw_b1_e h
        refine fw_ret (va_runS (As := [.int r18]) (rest := []) ⟨hx, hb, hml, hown, hU⟩ (k_X10_bits l hE r18 hc19) (va_cwS 1 hU (fw_gS m_1354 m_1355 m_9 m_1356) rfl rfl rfl (by decide +kernel) ⟨(Nat.le_of_ble_eq_true rfl), (Nat.le_of_ble_eq_true rfl)⟩) ⟨fw_blind, fun U hU9 hW9 => ⟨rfl, fw_pre hK hP hSt hS U hU9 hW9⟩⟩ rfl rfl hl.1 rfl (lv_room (Nat.le_of_ble_eq_true rfl)) dX10_writeBag_117 ⟨Nat.zero_le _, Nat.zero_le _⟩) hS (fun H locs hP hS => ?_)
        refine lv_istore_n (lv' := [(3, .int r19), (0, .ref (fw_ad E 0 18)), (1, .int x1), (2, .int x2)]) hx hb dX10_writeBag_120 rfl hl (by decide) rfl (fun ls hl => ?_)
        exact L121 1000 μ17 x1 x2 r19 H locs ls h hP hS (lv_sub hl [1, 2, 3, 0] rfl)
      have J77 : ∀ (μ : fw_M) (x1 : Int32) (x2 : Int32) (H : Heap) (locs : List Loc) (ls : Array Slot), f_X10_writeBag_J77 (f_X10_writeBag_L32 n32) μ x1 x2 = some (μ', r) → fw_P E o d μ H → va_S (fw_A E) s.heap H locs → lv_has ls 4 [(0, .ref (fw_ad E 0 18)), (1, .int x1), (2, .int x2)] → W p l e (headSpec (fw_ws yX10_writeBag cX10_writeBag 4 (some .int)) ({ frames := 2, cells := 0, slots := 0, locals := 42 } : Room)).room s m args below meth c H locs 0 0 (MQ below (fw_Q E o d (some (.int r)) μ') args s 0 0 (fw_A E)) (F0 m 77 ls []) := by
        intro μ x1 x2 H locs ls h hP hS hl
        unfold f_X10_writeBag_J77 at h
        refine lv_aload_n hx hb dX10_writeBag_77 rfl (lv_at hl 0 rfl) ?_
        refine lv_aload_n hx hb dX10_writeBag_78 rfl (lv_at hl 0 rfl) ?_
        refine lv_iload_n hx hb dX10_writeBag_79 rfl (lv_at hl 2 rfl) ?_
        refine lv_iconst (v := (1 : Int32)) hx hb dX10_writeBag_80 (by decide) ?_
        obtain ⟨r13, hc13, h⟩ := fw_b1_e h
        refine fw_ret (va_runV (As := [.int x2, .int (1 : Int32)]) (rest := [.ref (fw_ad E 0 18)]) ⟨hx, hb, hml, hown, hU⟩ (k_X10_of l hE x2 (1 : Int32) hc13) (cwV 2 hU (fw_gV m_1235 m_1237 ms_20 m_9 m_1238) rfl rfl rfl (by decide +kernel) ⟨(Nat.le_of_ble_eq_true rfl), (Nat.le_of_ble_eq_true rfl)⟩) ⟨fw_blind, fw_recv hK hP (fw_V0 (f := 18) (by decide) (by decide)) rfl rfl, fun U hU9 hW9 => ⟨rfl, fw_pre hK hP hSt hS U hU9 hW9⟩⟩ rfl rfl hl.1 rfl (lv_room (Nat.le_of_ble_eq_true rfl)) dX10_writeBag_81 ⟨Nat.zero_le _, Nat.zero_le _⟩) hS (fun H locs hP hS => ?_)
        refine lv_iconst (v := (1 : Int32)) hx hb dX10_writeBag_84 (by decide) ?_
        refine lv_icmp_ne (tgt := 93) hx hb dX10_writeBag_85 (by decide) (fun c14 => ?_) (fun c14 => ?_)
        · rw [if_neg c14] at h
          refine lv_bipush (v := (103 : Int32)) hx hb dX10_writeBag_93 (by decide) ?_
          exact J95 μ x1 x2 (103 : Int32) H locs ls h hP hS (lv_sub hl [0, 1, 2] rfl)
        · rw [if_pos c14] at h
          refine lv_bipush (v := (115 : Int32)) hx hb dX10_writeBag_88 (by decide) ?_
          refine lv_goto (tgt := 95) hx hb dX10_writeBag_90 (by decide) ?_
          exact J95 μ x1 x2 (115 : Int32) H locs ls h hP hS (lv_sub hl [0, 1, 2] rfl)
      intro μ x1 x2 H locs ls h hP hS hl
      rw [f_X10_writeBag_L32] at h
      refine lv_iload_n hx hb dX10_writeBag_32 rfl (lv_at hl 2 rfl) ?_
      refine lv_aload_n hx hb dX10_writeBag_33 rfl (lv_at hl 0 rfl) ?_
      refine va_get (D := fw_D E) (ci := 8) (v := .ref (fw_ad E 0 19)) (C := RX10) (T := TX10) (N := 20) hx hb hU inU10 hown hK (fw_at hP (fw_V0 (f := 18) (by decide) (by decide))) 0 rfl rfl 1 (by decide) (hU (Cond.fieldLink RX10 7 "LaundryServiceModel" "s" "[I") m_1118) (fun _ h9 => h9) rfl dX10_writeBag_34 ?_
      refine lv_iconst (v := (0 : Int32)) hx hb dX10_writeBag_37 (by decide) ?_
      refine va_iald (D := fw_D E) hx hb hK (fw_at hP (fw_V0 (f := 19) (by decide) (by decide))) 0 0 rfl rfl (fw_in_e (n := 104) (by decide)) dX10_writeBag_38 ?_
      refine lv_icmp_ge (tgt := 143) hx hb dX10_writeBag_39 (by decide) (fun c6 => ?_) (fun c6 => ?_)
      · rw [if_pos c6] at h
        refine lv_aload_n hx hb dX10_writeBag_143 rfl (lv_at hl 0 rfl) ?_
        refine va_get (D := fw_D E) (ci := 8) (v := .int (μ 0 18 12)) (C := RX10) (T := TX10) (N := 20) hx hb hU inU10 hown hK (fw_at hP (fw_V0 (f := 18) (by decide) (by decide))) 0 rfl rfl 12 (by decide) (hU (Cond.fieldLink RX10 241 "LaundryServiceModel" "outLength" "I") m_1129) (fun _ h9 => h9) rfl dX10_writeBag_144 ?_
        exact W.iret (v := (μ 0 18 12)) hx hb hr (fw_ew (mk := Value.int) h hP hS) hS.2.2 dX10_writeBag_147
      · rw [if_neg c6] at h
        refine lv_aload_n hx hb dX10_writeBag_42 rfl (lv_at hl 0 rfl) ?_
        refine lv_iload_n hx hb dX10_writeBag_43 rfl (lv_at hl 2 rfl) ?_
        refine lv_iconst (v := (4 : Int32)) hx hb dX10_writeBag_44 (by decide) ?_
        obtain ⟨r7, hc7, h⟩ := fw_b1_e h
        refine fw_ret (va_runV (As := [.int x2, .int (4 : Int32)]) (rest := []) ⟨hx, hb, hml, hown, hU⟩ (k_X10_of l hE x2 (4 : Int32) hc7) (cwV 2 hU (fw_gV m_1235 m_1237 ms_20 m_9 m_1238) rfl rfl rfl (by decide +kernel) ⟨(Nat.le_of_ble_eq_true rfl), (Nat.le_of_ble_eq_true rfl)⟩) ⟨fw_blind, fw_recv hK hP (fw_V0 (f := 18) (by decide) (by decide)) rfl rfl, fun U hU9 hW9 => ⟨rfl, fw_pre hK hP hSt hS U hU9 hW9⟩⟩ rfl rfl hl.1 rfl (lv_room (Nat.le_of_ble_eq_true rfl)) dX10_writeBag_45 ⟨Nat.zero_le _, Nat.zero_le _⟩) hS (fun H locs hP hS => ?_)
        refine lv_if_ne (tgt := 137) hx hb dX10_writeBag_48 (by decide) (fun c8 => ?_) (fun c8 => ?_)
        · rw [if_neg c8] at h
          refine lv_iinc (v := (x2 + (1 : Int32))) (lv' := [(2, .int (x2 + (1 : Int32))), (0, .ref (fw_ad E 0 18)), (1, .int x1)]) hx hb dX10_writeBag_137 hl (k := 2) rfl rfl (by decide) rfl (fun ls hl => ?_)
          refine lv_goto (tgt := 32) hx hb dX10_writeBag_140 (by decide) ?_
          exact ih32 μ x1 (x2 + (1 : Int32)) H locs ls h hP hS (lv_sub hl [1, 2, 0] rfl)
        · rw [if_pos c8] at h
          refine lv_aload_n hx hb dX10_writeBag_51 rfl (lv_at hl 0 rfl) ?_
          refine lv_iload_n hx hb dX10_writeBag_52 rfl (lv_at hl 2 rfl) ?_
          refine lv_iconst (v := (0 : Int32)) hx hb dX10_writeBag_53 (by decide) ?_
          obtain ⟨r9, hc9, h⟩ := fw_b1_e h
          refine fw_ret (va_runV (As := [.int x2, .int (0 : Int32)]) (rest := []) ⟨hx, hb, hml, hown, hU⟩ (k_X10_of l hE x2 (0 : Int32) hc9) (cwV 2 hU (fw_gV m_1235 m_1237 ms_20 m_9 m_1238) rfl rfl rfl (by decide +kernel) ⟨(Nat.le_of_ble_eq_true rfl), (Nat.le_of_ble_eq_true rfl)⟩) ⟨fw_blind, fw_recv hK hP (fw_V0 (f := 18) (by decide) (by decide)) rfl rfl, fun U hU9 hW9 => ⟨rfl, fw_pre hK hP hSt hS U hU9 hW9⟩⟩ rfl rfl hl.1 rfl (lv_room (Nat.le_of_ble_eq_true rfl)) dX10_writeBag_54 ⟨Nat.zero_le _, Nat.zero_le _⟩) hS (fun H locs hP hS => ?_)
          refine lv_iload_n hx hb dX10_writeBag_57 rfl (lv_at hl 1 rfl) ?_
          refine lv_icmp_eq (tgt := 64) hx hb dX10_writeBag_58 (by decide) (fun c10 => ?_) (fun c10 => ?_)
          · rw [if_pos c10] at h
            refine lv_aload_n hx hb dX10_writeBag_64 rfl (lv_at hl 0 rfl) ?_
            refine va_get (D := fw_D E) (ci := 8) (v := .int (μ 0 18 12)) (C := RX10) (T := TX10) (N := 20) hx hb hU inU10 hown hK (fw_at hP (fw_V0 (f := 18) (by decide) (by decide))) 0 rfl rfl 12 (by decide) (hU (Cond.fieldLink RX10 241 "LaundryServiceModel" "outLength" "I") m_1129) (fun _ h9 => h9) rfl dX10_writeBag_65 ?_
            refine lv_if_le (tgt := 77) hx hb dX10_writeBag_68 (by decide) (fun c11 => ?_) (fun c11 => ?_)
            · rw [if_pos c11] at h
              exact J77 μ x1 x2 H locs ls h hP hS (lv_sub hl [0, 1, 2] rfl)
            · rw [if_neg c11] at h
              refine lv_aload_n hx hb dX10_writeBag_71 rfl (lv_at hl 0 rfl) ?_
              refine lv_bipush (v := (32 : Int32)) hx hb dX10_writeBag_72 (by decide) ?_
              obtain ⟨μ12, r12, hc12, h⟩ := fw_b2_e h
              refine fw_retv (va_runV (As := [.int (32 : Int32)]) (rest := []) ⟨hx, hb, hml, hown, hU⟩ (k_X10_writes l hE (32 : Int32) hc12) (cwV 1 hU (fw_gV m_1533 m_1535 ms_46 m_9 m_1536) rfl rfl rfl (by decide +kernel) ⟨(Nat.le_of_ble_eq_true rfl), (Nat.le_of_ble_eq_true rfl)⟩) ⟨fw_blind, fw_recv hK hP (fw_V0 (f := 18) (by decide) (by decide)) rfl rfl, fun U hU9 hW9 => ⟨rfl, fw_pre hK hP hSt hS U hU9 hW9⟩⟩ rfl rfl hl.1 rfl (lv_room (Nat.le_of_ble_eq_true rfl)) dX10_writeBag_74 ⟨Nat.zero_le _, Nat.zero_le _⟩) hS (fun H locs hP hS => ?_)
              exact J77 μ12 x1 x2 H locs ls h hP hS (lv_sub hl [0, 1, 2] rfl)
          · rw [if_neg c10] at h
            refine lv_goto (tgt := 137) hx hb dX10_writeBag_61 (by decide) ?_
            refine lv_iinc (v := (x2 + (1 : Int32))) (lv' := [(2, .int (x2 + (1 : Int32))), (0, .ref (fw_ad E 0 18)), (1, .int x1)]) hx hb dX10_writeBag_137 hl (k := 2) rfl rfl (by decide) rfl (fun ls hl => ?_)
            refine lv_goto (tgt := 32) hx hb dX10_writeBag_140 (by decide) ?_
            exact ih32 μ x1 (x2 + (1 : Int32)) H locs ls h hP hS (lv_sub hl [1, 2, 0] rfl)
  have J13 : ∀ (μ : fw_M) (x1 : Int32) (s1 : Int32) (H : Heap) (locs : List Loc) (ls : Array Slot), f_X10_writeBag_J13 μ x1 s1 = some (μ', r) → fw_P E o d μ H → va_S (fw_A E) s.heap H locs → lv_has ls 4 [(0, .ref (fw_ad E 0 18)), (1, .int x1)] → W p l e (headSpec (fw_ws yX10_writeBag cX10_writeBag 4 (some .int)) ({ frames := 2, cells := 0, slots := 0, locals := 42 } : Room)).room s m args below meth c H locs 0 0 (MQ below (fw_Q E o d (some (.int r)) μ') args s 0 0 (fw_A E)) (F0 m 13 ls [.int s1, .ref (fw_ad E 0 18)]) := by
    intro μ x1 s1 H locs ls h hP hS hl
    unfold f_X10_writeBag_J13 at h
    refine fw_put (ci := 8) (v := .int s1) (ty := .int) (C := RX10) (T := TX10) (N := 20) hx hb hU inU10 tyX10 tyX10_ok nmX10 hown hK hP hE hS (fw_V0 (f := 18) (by decide) (by decide)) rfl rfl 0 (by decide) (hU (Cond.fieldLink RX10 41 "LaundryServiceModel" "thrown" "I") m_1117) (fun _ h9 => h9) rfl (by decide +kernel) rfl rfl (Nat.le_of_ble_eq_true rfl) 0 s1 (by rw [fw_u_c]; rfl) dX10_writeBag_13 (fun H locs hP hS => ?_)
    obtain ⟨μ3, eμ3, h⟩ := fw_l_e h
    rw [← eμ3] at hP
    refine lv_aload_n hx hb dX10_writeBag_16 rfl (lv_at hl 0 rfl) ?_
    refine va_get (D := fw_D E) (ci := 8) (v := .int (μ3 0 18 0)) (C := RX10) (T := TX10) (N := 20) hx hb hU inU10 hown hK (fw_at hP (fw_V0 (f := 18) (by decide) (by decide))) 0 rfl rfl 0 (by decide) (hU (Cond.fieldLink RX10 41 "LaundryServiceModel" "thrown" "I") m_1117) (fun _ h9 => h9) rfl dX10_writeBag_17 ?_
    refine lv_if_le (tgt := 25) hx hb dX10_writeBag_20 (by decide) (fun c4 => ?_) (fun c4 => ?_)
    · rw [if_pos c4] at h
      refine lv_aload_n hx hb dX10_writeBag_25 rfl (lv_at hl 0 rfl) ?_
      refine lv_iconst (v := (0 : Int32)) hx hb dX10_writeBag_26 (by decide) ?_
      refine fw_put (ci := 8) (v := .int (0 : Int32)) (ty := .int) (C := RX10) (T := TX10) (N := 20) hx hb hU inU10 tyX10 tyX10_ok nmX10 hown hK hP hE hS (fw_V0 (f := 18) (by decide) (by decide)) rfl rfl 12 (by decide) (hU (Cond.fieldLink RX10 241 "LaundryServiceModel" "outLength" "I") m_1129) (fun _ h9 => h9) rfl (by decide +kernel) rfl rfl (Nat.le_of_ble_eq_true rfl) 12 (0 : Int32) (by rw [fw_u_c]; rfl) dX10_writeBag_27 (fun H locs hP hS => ?_)
      obtain ⟨μ5, eμ5, h⟩ := fw_l_e h
      rw [← eμ5] at hP
      refine lv_iconst (v := (0 : Int32)) hx hb dX10_writeBag_30 (by decide) ?_
      refine lv_istore_n (lv' := [(2, .int (0 : Int32)), (0, .ref (fw_ad E 0 18)), (1, .int x1)]) hx hb dX10_writeBag_31 rfl hl (by decide) rfl (fun ls hl => ?_)
      exact L32 1000 μ5 x1 (0 : Int32) H locs ls h hP hS (lv_sub hl [1, 2, 0] rfl)
    · rw [if_neg c4] at h
      refine lv_iconst (v := (0 : Int32)) hx hb dX10_writeBag_23 (by decide) ?_
      exact W.iret (v := (0 : Int32)) hx hb hr (fw_ew (mk := Value.int) h hP hS) hS.2.2 dX10_writeBag_24
  have EN : ∀ (H : Heap) (locs : List Loc) (ls : Array Slot), fw_P E o d μ H → va_S (fw_A E) s.heap H locs → lv_has ls 4 [(0, .ref (fw_ad E 0 18)), (1, .int x1)] → W p l e (headSpec (fw_ws yX10_writeBag cX10_writeBag 4 (some .int)) ({ frames := 2, cells := 0, slots := 0, locals := 42 } : Room)).room s m args below meth c H locs 0 0 (MQ below (fw_Q E o d (some (.int r)) μ') args s 0 0 (fw_A E)) (F0 m 0 ls []) := by
    intro H locs ls hP hS hl
    unfold f_X10_writeBag at h
    refine lv_aload_n hx hb dX10_writeBag_0 rfl (lv_at hl 0 rfl) ?_
    refine lv_iload_n hx hb dX10_writeBag_1 rfl (lv_at hl 1 rfl) ?_
    obtain ⟨r1, hc1, h⟩ := fw_b1_e h
    refine fw_ret (va_runS (As := [.int x1]) (rest := [.ref (fw_ad E 0 18)]) ⟨hx, hb, hml, hown, hU⟩ (k_X10_isClient l hE x1 hc1) (va_cwS 1 hU (fw_gS m_1194 m_1195 m_9 m_1196) rfl rfl rfl (by decide +kernel) ⟨(Nat.le_of_ble_eq_true rfl), (Nat.le_of_ble_eq_true rfl)⟩) ⟨fw_blind, fun U hU9 hW9 => ⟨rfl, fw_pre hK hP hSt hS U hU9 hW9⟩⟩ rfl rfl hl.1 rfl (lv_room (Nat.le_of_ble_eq_true rfl)) dX10_writeBag_2 ⟨Nat.zero_le _, Nat.zero_le _⟩) hS (fun H locs hP hS => ?_)
    refine lv_if_eq (tgt := 12) hx hb dX10_writeBag_5 (by decide) (fun c2 => ?_) (fun c2 => ?_)
    · rw [if_pos c2] at h
      refine lv_iconst (v := (1 : Int32)) hx hb dX10_writeBag_12 (by decide) ?_
      exact J13 μ x1 (1 : Int32) H locs ls h hP hS (lv_sub hl [0, 1] rfl)
    · rw [if_neg c2] at h
      refine lv_iconst (v := (0 : Int32)) hx hb dX10_writeBag_8 (by decide) ?_
      refine lv_goto (tgt := 13) hx hb dX10_writeBag_9 (by decide) ?_
      exact J13 μ x1 (0 : Int32) H locs ls h hP hS (lv_sub hl [0, 1] rfl)
  subst ha
  have hl := lv_entry ([.ref (fw_ad E 0 18), .int x1]) (n := 4) (Nat.le_of_ble_eq_true rfl)
  rw [lg_entry_eq]
  generalize (lg_sl ([.ref (fw_ad E 0 18), .int x1]) ++ List.replicate (4 - (lg_sl ([.ref (fw_ad E 0 18), .int x1])).length) Slot.unset).toArray = ls at hl ⊢
  exact EN s.heap [] ls hP va_S.rf hl
set_option maxHeartbeats 4000000 in
set_option maxRecDepth 100000 in
theorem k_X10_outputChar (l : Launch) {E : fw_E} {o : Int64} {d : UInt64} (hE : fw_ok E) {μ μ' : fw_M} (x1 : Int32) {r : Int32} (h : f_X10_outputChar μ x1 = some (μ', r)) : Met l yX10_outputChar (fw_ws yX10_outputChar cX10_outputChar 2 (some .char)) ({ frames := 1, cells := 0, slots := 0, locals := 22 } : Room) (va_Pc [.ref (fw_ad E 0 18), .int x1] (fw_Pre E o d μ)) (fw_Q E o d (some (.int r)) μ') 0 0 (fw_A E) := by
  refine Met.ofW (cc := cX10_outputChar) (maxL := 2) (ret := (some .char)) (by decide) rfl ?_
  intro p e s m args below meth c s₁ B hml hv
  obtain ⟨ha, hK, hP, hSt⟩ := hv
  have hx := B.exec
  have hb := B.bytes
  have hr := B.returns
  have hts := atoms_spec (ws := fw_ws yX10_outputChar cX10_outputChar 2 (some .char)) B.pre
  have hU : ∀ w ∈ fw_U, w.before args s = true := fun w hw => hts w (List.mem_cons_of_mem _ hw)
  have hown : s.vm.findClass RX10 = some m.cls := findClass_of_methodNamed B.named
  have hlocks := B.notSynchronized
  have J20 : ∀ (μ : fw_M) (x1 : Int32) (s1 : Int32) (H : Heap) (locs : List Loc) (ls : Array Slot), f_X10_outputChar_J20 μ x1 s1 = some (μ', r) → fw_P E o d μ H → va_S (fw_A E) s.heap H locs → lv_has ls 2 [(0, .ref (fw_ad E 0 18)), (1, .int x1)] → W p l e (headSpec (fw_ws yX10_outputChar cX10_outputChar 2 (some .char)) ({ frames := 1, cells := 0, slots := 0, locals := 22 } : Room)).room s m args below meth c H locs 0 0 (MQ below (fw_Q E o d (some (.int r)) μ') args s 0 0 (fw_A E)) (F0 m 20 ls [.int s1, .ref (fw_ad E 0 18)]) := by
    intro μ x1 s1 H locs ls h hP hS hl
    unfold f_X10_outputChar_J20 at h
    refine fw_put (ci := 8) (v := .int s1) (ty := .int) (C := RX10) (T := TX10) (N := 20) hx hb hU inU10 tyX10 tyX10_ok nmX10 hown hK hP hE hS (fw_V0 (f := 18) (by decide) (by decide)) rfl rfl 0 (by decide) (hU (Cond.fieldLink RX10 41 "LaundryServiceModel" "thrown" "I") m_1117) (fun _ h9 => h9) rfl (by decide +kernel) rfl rfl (Nat.le_of_ble_eq_true rfl) 0 s1 (by rw [fw_u_c]; rfl) dX10_outputChar_20 (fun H locs hP hS => ?_)
    obtain ⟨μ3, eμ3, h⟩ := fw_l_e h
    rw [← eμ3] at hP
    refine lv_aload_n hx hb dX10_outputChar_23 rfl (lv_at hl 0 rfl) ?_
    refine va_get (D := fw_D E) (ci := 8) (v := .int (μ3 0 18 0)) (C := RX10) (T := TX10) (N := 20) hx hb hU inU10 hown hK (fw_at hP (fw_V0 (f := 18) (by decide) (by decide))) 0 rfl rfl 0 (by decide) (hU (Cond.fieldLink RX10 41 "LaundryServiceModel" "thrown" "I") m_1117) (fun _ h9 => h9) rfl dX10_outputChar_24 ?_
    refine lv_if_le (tgt := 34) hx hb dX10_outputChar_27 (by decide) (fun c4 => ?_) (fun c4 => ?_)
    · rw [if_pos c4] at h
      refine lv_aload_n hx hb dX10_outputChar_34 rfl (lv_at hl 0 rfl) ?_
      refine va_get (D := fw_D E) (ci := 8) (v := .ref (fw_ad E 0 25)) (C := RX10) (T := TX10) (N := 20) hx hb hU inU10 hown hK (fw_at hP (fw_V0 (f := 18) (by decide) (by decide))) 0 rfl rfl 9 (by decide) (hU (Cond.fieldLink RX10 28 "LaundryServiceModel" "out" "[I") m_1126) (fun _ h9 => h9) rfl dX10_outputChar_35 ?_
      refine lv_iload_n hx hb dX10_outputChar_38 rfl (lv_at hl 1 rfl) ?_
      obtain ⟨g5, h⟩ := fw_g_e h
      refine va_iald (D := fw_D E) hx hb hK (fw_at hP (fw_V0 (f := 25) (by decide) (by decide))) 0 0 rfl rfl (fw_in_e g5) dX10_outputChar_39 ?_
      refine lv_i2c (v := ((μ3 0 25 x1.toNatClampNeg).toUInt32 % 65536).toInt32) hx hb dX10_outputChar_40 rfl ?_
      exact W.zret (v := ((μ3 0 25 x1.toNatClampNeg).toUInt32 % 65536).toInt32) hx hb hr (pk_nc _) (fw_ew (mk := Value.int) h hP hS) hS.2.2 dX10_outputChar_41
    · rw [if_neg c4] at h
      refine lv_iconst (v := (0 : Int32)) hx hb dX10_outputChar_30 (by decide) ?_
      refine lv_goto (tgt := 41) hx hb dX10_outputChar_31 (by decide) ?_
      exact W.zret (v := (0 : Int32)) hx hb hr rfl (fw_ew (mk := Value.int) h hP hS) hS.2.2 dX10_outputChar_41
  have EN : ∀ (H : Heap) (locs : List Loc) (ls : Array Slot), fw_P E o d μ H → va_S (fw_A E) s.heap H locs → lv_has ls 2 [(0, .ref (fw_ad E 0 18)), (1, .int x1)] → W p l e (headSpec (fw_ws yX10_outputChar cX10_outputChar 2 (some .char)) ({ frames := 1, cells := 0, slots := 0, locals := 22 } : Room)).room s m args below meth c H locs 0 0 (MQ below (fw_Q E o d (some (.int r)) μ') args s 0 0 (fw_A E)) (F0 m 0 ls []) := by
    intro H locs ls hP hS hl
    unfold f_X10_outputChar at h
    refine lv_aload_n hx hb dX10_outputChar_0 rfl (lv_at hl 0 rfl) ?_
    refine lv_iload_n hx hb dX10_outputChar_1 rfl (lv_at hl 1 rfl) ?_
    refine lv_iconst (v := (0 : Int32)) hx hb dX10_outputChar_2 (by decide) ?_
    refine lv_aload_n hx hb dX10_outputChar_3 rfl (lv_at hl 0 rfl) ?_
    refine va_get (D := fw_D E) (ci := 8) (v := .int (μ 0 18 12)) (C := RX10) (T := TX10) (N := 20) hx hb hU inU10 hown hK (fw_at hP (fw_V0 (f := 18) (by decide) (by decide))) 0 rfl rfl 12 (by decide) (hU (Cond.fieldLink RX10 241 "LaundryServiceModel" "outLength" "I") m_1129) (fun _ h9 => h9) rfl dX10_outputChar_4 ?_
    refine lv_iconst (v := (1 : Int32)) hx hb dX10_outputChar_7 (by decide) ?_
    refine lv_isub hx hb dX10_outputChar_8 ?_
    obtain ⟨r1, hc1, h⟩ := fw_b1_e h
    refine fw_ret (va_runS (As := [.int x1, .int (0 : Int32), .int ((μ 0 18 12) - (1 : Int32))]) (rest := [.ref (fw_ad E 0 18)]) ⟨hx, hb, hml, hown, hU⟩ (k_X10_in l hE x1 (0 : Int32) ((μ 0 18 12) - (1 : Int32)) hc1) (va_cwS 3 hU (fw_gS m_1197 m_1198 m_9 m_1199) rfl rfl rfl (by decide +kernel) ⟨(Nat.le_of_ble_eq_true rfl), (Nat.le_of_ble_eq_true rfl)⟩) ⟨fw_blind, fun U hU9 hW9 => ⟨rfl, fw_pre hK hP hSt hS U hU9 hW9⟩⟩ rfl rfl hl.1 rfl (lv_room (Nat.le_of_ble_eq_true rfl)) dX10_outputChar_9 ⟨Nat.zero_le _, Nat.zero_le _⟩) hS (fun H locs hP hS => ?_)
    refine lv_if_eq (tgt := 19) hx hb dX10_outputChar_12 (by decide) (fun c2 => ?_) (fun c2 => ?_)
    · rw [if_pos c2] at h
      refine lv_iconst (v := (1 : Int32)) hx hb dX10_outputChar_19 (by decide) ?_
      exact J20 μ x1 (1 : Int32) H locs ls h hP hS (lv_sub hl [0, 1] rfl)
    · rw [if_neg c2] at h
      refine lv_iconst (v := (0 : Int32)) hx hb dX10_outputChar_15 (by decide) ?_
      refine lv_goto (tgt := 20) hx hb dX10_outputChar_16 (by decide) ?_
      exact J20 μ x1 (0 : Int32) H locs ls h hP hS (lv_sub hl [0, 1] rfl)
  subst ha
  have hl := lv_entry ([.ref (fw_ad E 0 18), .int x1]) (n := 2) (Nat.le_of_ble_eq_true rfl)
  rw [lg_entry_eq]
  generalize (lg_sl ([.ref (fw_ad E 0 18), .int x1]) ++ List.replicate (2 - (lg_sl ([.ref (fw_ad E 0 18), .int x1])).length) Slot.unset).toArray = ls at hl ⊢
  exact EN s.heap [] ls hP va_S.rf hl
set_option maxHeartbeats 4000000 in
set_option maxRecDepth 100000 in
theorem k_X10_undoCount (l : Launch) {E : fw_E} {o : Int64} {d : UInt64} (hE : fw_ok E) {μ μ' : fw_M} {r : Int32} (h : f_X10_undoCount μ = some (μ', r)) : Met l yX10_undoCount (fw_ws yX10_undoCount cX10_undoCount 1 (some .int)) ({ frames := 0, cells := 0, slots := 0, locals := 0 } : Room) (va_Pc [.ref (fw_ad E 0 18)] (fw_Pre E o d μ)) (fw_Q E o d (some (.int r)) μ') 0 0 (fw_A E) := by
  refine Met.ofW (cc := cX10_undoCount) (maxL := 1) (ret := (some .int)) (by decide) rfl ?_
  intro p e s m args below meth c s₁ B hml hv
  obtain ⟨ha, hK, hP, hSt⟩ := hv
  have hx := B.exec
  have hb := B.bytes
  have hr := B.returns
  have hts := atoms_spec (ws := fw_ws yX10_undoCount cX10_undoCount 1 (some .int)) B.pre
  have hU : ∀ w ∈ fw_U, w.before args s = true := fun w hw => hts w (List.mem_cons_of_mem _ hw)
  have hown : s.vm.findClass RX10 = some m.cls := findClass_of_methodNamed B.named
  have hlocks := B.notSynchronized
  have EN : ∀ (H : Heap) (locs : List Loc) (ls : Array Slot), fw_P E o d μ H → va_S (fw_A E) s.heap H locs → lv_has ls 1 [(0, .ref (fw_ad E 0 18))] → W p l e (headSpec (fw_ws yX10_undoCount cX10_undoCount 1 (some .int)) ({ frames := 0, cells := 0, slots := 0, locals := 0 } : Room)).room s m args below meth c H locs 0 0 (MQ below (fw_Q E o d (some (.int r)) μ') args s 0 0 (fw_A E)) (F0 m 0 ls []) := by
    intro H locs ls hP hS hl
    unfold f_X10_undoCount at h
    refine lv_aload_n hx hb dX10_undoCount_0 rfl (lv_at hl 0 rfl) ?_
    refine lv_iconst (v := (0 : Int32)) hx hb dX10_undoCount_1 (by decide) ?_
    refine fw_put (ci := 8) (v := .int (0 : Int32)) (ty := .int) (C := RX10) (T := TX10) (N := 20) hx hb hU inU10 tyX10 tyX10_ok nmX10 hown hK hP hE hS (fw_V0 (f := 18) (by decide) (by decide)) rfl rfl 0 (by decide) (hU (Cond.fieldLink RX10 41 "LaundryServiceModel" "thrown" "I") m_1117) (fun _ h9 => h9) rfl (by decide +kernel) rfl rfl (Nat.le_of_ble_eq_true rfl) 0 (0 : Int32) (by rw [fw_u_c]; rfl) dX10_undoCount_2 (fun H locs hP hS => ?_)
    obtain ⟨μ1, eμ1, h⟩ := fw_l_e h
    rw [← eμ1] at hP
    refine lv_aload_n hx hb dX10_undoCount_5 rfl (lv_at hl 0 rfl) ?_
    refine va_get (D := fw_D E) (ci := 8) (v := .int (μ1 0 18 5)) (C := RX10) (T := TX10) (N := 20) hx hb hU inU10 hown hK (fw_at hP (fw_V0 (f := 18) (by decide) (by decide))) 0 rfl rfl 5 (by decide) (hU (Cond.fieldLink RX10 44 "LaundryServiceModel" "kept" "I") m_1122) (fun _ h9 => h9) rfl dX10_undoCount_6 ?_
    exact W.iret (v := (μ1 0 18 5)) hx hb hr (fw_ew (mk := Value.int) h hP hS) hS.2.2 dX10_undoCount_9
  subst ha
  have hl := lv_entry ([.ref (fw_ad E 0 18)]) (n := 1) (Nat.le_of_ble_eq_true rfl)
  rw [lg_entry_eq]
  generalize (lg_sl ([.ref (fw_ad E 0 18)]) ++ List.replicate (1 - (lg_sl ([.ref (fw_ad E 0 18)])).length) Slot.unset).toArray = ls at hl ⊢
  exact EN s.heap [] ls hP va_S.rf hl
set_option maxHeartbeats 4000000 in
set_option maxRecDepth 100000 in
theorem k_X10_undo (l : Launch) {E : fw_E} {o : Int64} {d : UInt64} (hE : fw_ok E) {μ μ' : fw_M} {r : Int32} (h : f_X10_undo μ = some (μ', r)) : Met l yX10_undo (fw_ws yX10_undo cX10_undo 2 (some .int)) ({ frames := 1, cells := 0, slots := 0, locals := 21 } : Room) (va_Pc [.ref (fw_ad E 0 18)] (fw_Pre E o d μ)) (fw_Q E o d (some (.int r)) μ') 0 0 (fw_A E) := by
  refine Met.ofW (cc := cX10_undo) (maxL := 2) (ret := (some .int)) (by decide) rfl ?_
  intro p e s m args below meth c s₁ B hml hv
  obtain ⟨ha, hK, hP, hSt⟩ := hv
  have hx := B.exec
  have hb := B.bytes
  have hr := B.returns
  have hts := atoms_spec (ws := fw_ws yX10_undo cX10_undo 2 (some .int)) B.pre
  have hU : ∀ w ∈ fw_U, w.before args s = true := fun w hw => hts w (List.mem_cons_of_mem _ hw)
  have hown : s.vm.findClass RX10 = some m.cls := findClass_of_methodNamed B.named
  have hlocks := B.notSynchronized
  have L30 : ∀ (n : Nat) (μ : fw_M) (x1 : Int32) (H : Heap) (locs : List Loc) (ls : Array Slot), f_X10_undo_L30 n μ x1 = some (μ', r) → fw_P E o d μ H → va_S (fw_A E) s.heap H locs → lv_has ls 2 [(0, .ref (fw_ad E 0 18)), (1, .int x1)] → W p l e (headSpec (fw_ws yX10_undo cX10_undo 2 (some .int)) ({ frames := 1, cells := 0, slots := 0, locals := 21 } : Room)).room s m args below meth c H locs 0 0 (MQ below (fw_Q E o d (some (.int r)) μ') args s 0 0 (fw_A E)) (F0 m 30 ls []) := by
    intro n30
    induction n30 with
    | zero => intro μ x1 H locs ls h; rw [f_X10_undo_L30] at h; cases h
    | succ n30 ih30 =>
      intro μ x1 H locs ls h hP hS hl
      rw [f_X10_undo_L30] at h
      refine lv_iload_n hx hb dX10_undo_30 rfl (lv_at hl 1 rfl) ?_
      refine lv_bipush (v := (104 : Int32)) hx hb dX10_undo_31 (by decide) ?_
      refine lv_icmp_ge (tgt := 62) hx hb dX10_undo_33 (by decide) (fun c5 => ?_) (fun c5 => ?_)
      · rw [if_pos c5] at h
        refine lv_aload_n hx hb dX10_undo_62 rfl (lv_at hl 0 rfl) ?_
        refine va_get (D := fw_D E) (ci := 8) (v := .int (μ 0 18 5)) (C := RX10) (T := TX10) (N := 20) hx hb hU inU10 hown hK (fw_at hP (fw_V0 (f := 18) (by decide) (by decide))) 0 rfl rfl 5 (by decide) (hU (Cond.fieldLink RX10 44 "LaundryServiceModel" "kept" "I") m_1122) (fun _ h9 => h9) rfl dX10_undo_63 ?_
        exact W.iret (v := (μ 0 18 5)) hx hb hr (fw_ew (mk := Value.int) h hP hS) hS.2.2 dX10_undo_66
      · rw [if_neg c5] at h
        refine lv_aload_n hx hb dX10_undo_36 rfl (lv_at hl 0 rfl) ?_
        refine va_get (D := fw_D E) (ci := 8) (v := .ref (fw_ad E 0 19)) (C := RX10) (T := TX10) (N := 20) hx hb hU inU10 hown hK (fw_at hP (fw_V0 (f := 18) (by decide) (by decide))) 0 rfl rfl 1 (by decide) (hU (Cond.fieldLink RX10 7 "LaundryServiceModel" "s" "[I") m_1118) (fun _ h9 => h9) rfl dX10_undo_37 ?_
        refine lv_iload_n hx hb dX10_undo_40 rfl (lv_at hl 1 rfl) ?_
        refine lv_aload_n hx hb dX10_undo_41 rfl (lv_at hl 0 rfl) ?_
        refine va_get (D := fw_D E) (ci := 8) (v := .ref (fw_ad E 0 22)) (C := RX10) (T := TX10) (N := 20) hx hb hU inU10 hown hK (fw_at hP (fw_V0 (f := 18) (by decide) (by decide))) 0 rfl rfl 4 (by decide) (hU (Cond.fieldLink RX10 19 "LaundryServiceModel" "history" "[I") m_1121) (fun _ h9 => h9) rfl dX10_undo_42 ?_
        refine lv_bipush (v := (104 : Int32)) hx hb dX10_undo_45 (by decide) ?_
        refine lv_aload_n hx hb dX10_undo_47 rfl (lv_at hl 0 rfl) ?_
        refine va_get (D := fw_D E) (ci := 8) (v := .int (μ 0 18 5)) (C := RX10) (T := TX10) (N := 20) hx hb hU inU10 hown hK (fw_at hP (fw_V0 (f := 18) (by decide) (by decide))) 0 rfl rfl 5 (by decide) (hU (Cond.fieldLink RX10 44 "LaundryServiceModel" "kept" "I") m_1122) (fun _ h9 => h9) rfl dX10_undo_48 ?_
        refine lv_imul hx hb dX10_undo_51 ?_
        refine lv_iload_n hx hb dX10_undo_52 rfl (lv_at hl 1 rfl) ?_
        refine lv_iadd hx hb dX10_undo_53 ?_
        obtain ⟨g6, h⟩ := fw_g_e h
        refine va_iald (D := fw_D E) hx hb hK (fw_at hP (fw_V0 (f := 22) (by decide) (by decide))) 0 0 rfl rfl (fw_in_e g6) dX10_undo_54 ?_
        obtain ⟨g7, h⟩ := fw_g_e h
        refine fw_iast (n := 104) hx hb hK hP hE hS (fw_V0 (f := 19) (by decide) (by decide)) (fun _ => rfl) (fw_in_e g7) dX10_undo_55 (fun H locs hP hS => ?_)
        obtain ⟨μ8, eμ8, h⟩ := fw_l_e h
        rw [← eμ8] at hP
        refine lv_iinc (v := (x1 + (1 : Int32))) (lv' := [(1, .int (x1 + (1 : Int32))), (0, .ref (fw_ad E 0 18))]) hx hb dX10_undo_56 hl (k := 1) rfl rfl (by decide) rfl (fun ls hl => ?_)
        refine lv_goto (tgt := 30) hx hb dX10_undo_59 (by decide) ?_
        exact ih30 μ8 (x1 + (1 : Int32)) H locs ls h hP hS (lv_sub hl [1, 0] rfl)
  have EN : ∀ (H : Heap) (locs : List Loc) (ls : Array Slot), fw_P E o d μ H → va_S (fw_A E) s.heap H locs → lv_has ls 2 [(0, .ref (fw_ad E 0 18))] → W p l e (headSpec (fw_ws yX10_undo cX10_undo 2 (some .int)) ({ frames := 1, cells := 0, slots := 0, locals := 21 } : Room)).room s m args below meth c H locs 0 0 (MQ below (fw_Q E o d (some (.int r)) μ') args s 0 0 (fw_A E)) (F0 m 0 ls []) := by
    intro H locs ls hP hS hl
    unfold f_X10_undo at h
    refine lv_aload_n hx hb dX10_undo_0 rfl (lv_at hl 0 rfl) ?_
    refine lv_iconst (v := (0 : Int32)) hx hb dX10_undo_1 (by decide) ?_
    refine fw_put (ci := 8) (v := .int (0 : Int32)) (ty := .int) (C := RX10) (T := TX10) (N := 20) hx hb hU inU10 tyX10 tyX10_ok nmX10 hown hK hP hE hS (fw_V0 (f := 18) (by decide) (by decide)) rfl rfl 0 (by decide) (hU (Cond.fieldLink RX10 41 "LaundryServiceModel" "thrown" "I") m_1117) (fun _ h9 => h9) rfl (by decide +kernel) rfl rfl (Nat.le_of_ble_eq_true rfl) 0 (0 : Int32) (by rw [fw_u_c]; rfl) dX10_undo_2 (fun H locs hP hS => ?_)
    obtain ⟨μ1, eμ1, h⟩ := fw_l_e h
    rw [← eμ1] at hP
    refine lv_aload_n hx hb dX10_undo_5 rfl (lv_at hl 0 rfl) ?_
    refine va_get (D := fw_D E) (ci := 8) (v := .int (μ1 0 18 5)) (C := RX10) (T := TX10) (N := 20) hx hb hU inU10 hown hK (fw_at hP (fw_V0 (f := 18) (by decide) (by decide))) 0 rfl rfl 5 (by decide) (hU (Cond.fieldLink RX10 44 "LaundryServiceModel" "kept" "I") m_1122) (fun _ h9 => h9) rfl dX10_undo_6 ?_
    refine lv_if_ne (tgt := 18) hx hb dX10_undo_9 (by decide) (fun c2 => ?_) (fun c2 => ?_)
    · rw [if_neg c2] at h
      refine lv_aload_n hx hb dX10_undo_18 rfl (lv_at hl 0 rfl) ?_
      refine lv_dup hx hb dX10_undo_19 rfl ?_
      refine va_get (D := fw_D E) (ci := 8) (v := .int (μ1 0 18 5)) (C := RX10) (T := TX10) (N := 20) hx hb hU inU10 hown hK (fw_at hP (fw_V0 (f := 18) (by decide) (by decide))) 0 rfl rfl 5 (by decide) (hU (Cond.fieldLink RX10 44 "LaundryServiceModel" "kept" "I") m_1122) (fun _ h9 => h9) rfl dX10_undo_20 ?_
      refine lv_iconst (v := (1 : Int32)) hx hb dX10_undo_23 (by decide) ?_
      refine lv_isub hx hb dX10_undo_24 ?_
      refine fw_put (ci := 8) (v := .int ((μ1 0 18 5) - (1 : Int32))) (ty := .int) (C := RX10) (T := TX10) (N := 20) hx hb hU inU10 tyX10 tyX10_ok nmX10 hown hK hP hE hS (fw_V0 (f := 18) (by decide) (by decide)) rfl rfl 5 (by decide) (hU (Cond.fieldLink RX10 44 "LaundryServiceModel" "kept" "I") m_1122) (fun _ h9 => h9) rfl (by decide +kernel) rfl rfl (Nat.le_of_ble_eq_true rfl) 5 ((μ1 0 18 5) - (1 : Int32)) (by rw [fw_u_c]; rfl) dX10_undo_25 (fun H locs hP hS => ?_)
      obtain ⟨μ4, eμ4, h⟩ := fw_l_e h
      rw [← eμ4] at hP
      refine lv_iconst (v := (0 : Int32)) hx hb dX10_undo_28 (by decide) ?_
      refine lv_istore_n (lv' := [(1, .int (0 : Int32)), (0, .ref (fw_ad E 0 18))]) hx hb dX10_undo_29 rfl hl (by decide) rfl (fun ls hl => ?_)
      exact L30 1000 μ4 (0 : Int32) H locs ls h hP hS (lv_sub hl [1, 0] rfl)
    · rw [if_pos c2] at h
      refine lv_aload_n hx hb dX10_undo_12 rfl (lv_at hl 0 rfl) ?_
      refine lv_iconst (v := (1 : Int32)) hx hb dX10_undo_13 (by decide) ?_
      obtain ⟨μ3, r3, hc3, h⟩ := fw_b2_e h
      refine fw_ret (va_runV (As := [.int (1 : Int32)]) (rest := []) ⟨hx, hb, hml, hown, hU⟩ (k_X10_fails l hE (1 : Int32) hc3) (cwV 1 hU (fw_gV m_1216 m_1218 ms_17 m_9 m_1219) rfl rfl rfl (by decide +kernel) ⟨(Nat.le_of_ble_eq_true rfl), (Nat.le_of_ble_eq_true rfl)⟩) ⟨fw_blind, fw_recv hK hP (fw_V0 (f := 18) (by decide) (by decide)) rfl rfl, fun U hU9 hW9 => ⟨rfl, fw_pre hK hP hSt hS U hU9 hW9⟩⟩ rfl rfl hl.1 rfl (lv_room (Nat.le_of_ble_eq_true rfl)) dX10_undo_14 ⟨Nat.zero_le _, Nat.zero_le _⟩) hS (fun H locs hP hS => ?_)
      exact W.iret (v := r3) hx hb hr (fw_ew (mk := Value.int) h hP hS) hS.2.2 dX10_undo_17
  subst ha
  have hl := lv_entry ([.ref (fw_ad E 0 18)]) (n := 2) (Nat.le_of_ble_eq_true rfl)
  rw [lg_entry_eq]
  generalize (lg_sl ([.ref (fw_ad E 0 18)]) ++ List.replicate (2 - (lg_sl ([.ref (fw_ad E 0 18)])).length) Slot.unset).toArray = ls at hl ⊢
  exact EN s.heap [] ls hP va_S.rf hl
set_option maxHeartbeats 4000000 in
set_option maxRecDepth 100000 in
theorem k_X10_save (l : Launch) {E : fw_E} {o : Int64} {d : UInt64} (hE : fw_ok E) {μ μ' : fw_M} {r : Int32} (h : f_X10_save μ = some (μ', r)) : Met l yX10_save (fw_ws yX10_save cX10_save 2 (some .int)) ({ frames := 0, cells := 0, slots := 0, locals := 0 } : Room) (va_Pc [.ref (fw_ad E 0 18)] (fw_Pre E o d μ)) (fw_Q E o d (some (.int r)) μ') 0 0 (fw_A E) := by
  refine Met.ofW (cc := cX10_save) (maxL := 2) (ret := (some .int)) (by decide) rfl ?_
  intro p e s m args below meth c s₁ B hml hv
  obtain ⟨ha, hK, hP, hSt⟩ := hv
  have hx := B.exec
  have hb := B.bytes
  have hr := B.returns
  have hts := atoms_spec (ws := fw_ws yX10_save cX10_save 2 (some .int)) B.pre
  have hU : ∀ w ∈ fw_U, w.before args s = true := fun w hw => hts w (List.mem_cons_of_mem _ hw)
  have hown : s.vm.findClass RX10 = some m.cls := findClass_of_methodNamed B.named
  have hlocks := B.notSynchronized
  have L7 : ∀ (n : Nat) (μ : fw_M) (x1 : Int32) (H : Heap) (locs : List Loc) (ls : Array Slot), f_X10_save_L7 n μ x1 = some (μ', r) → fw_P E o d μ H → va_S (fw_A E) s.heap H locs → lv_has ls 2 [(0, .ref (fw_ad E 0 18)), (1, .int x1)] → W p l e (headSpec (fw_ws yX10_save cX10_save 2 (some .int)) ({ frames := 0, cells := 0, slots := 0, locals := 0 } : Room)).room s m args below meth c H locs 0 0 (MQ below (fw_Q E o d (some (.int r)) μ') args s 0 0 (fw_A E)) (F0 m 7 ls []) := by
    intro n7
    induction n7 with
    | zero => intro μ x1 H locs ls h; rw [f_X10_save_L7] at h; cases h
    | succ n7 ih7 =>
      intro μ x1 H locs ls h hP hS hl
      rw [f_X10_save_L7] at h
      refine lv_iload_n hx hb dX10_save_7 rfl (lv_at hl 1 rfl) ?_
      refine lv_bipush (v := (104 : Int32)) hx hb dX10_save_8 (by decide) ?_
      refine lv_icmp_ge (tgt := 31) hx hb dX10_save_10 (by decide) (fun c2 => ?_) (fun c2 => ?_)
      · rw [if_pos c2] at h
        refine lv_aload_n hx hb dX10_save_31 rfl (lv_at hl 0 rfl) ?_
        refine lv_iconst (v := (1 : Int32)) hx hb dX10_save_32 (by decide) ?_
        refine fw_put (ci := 8) (v := .int (1 : Int32)) (ty := .boolean) (C := RX10) (T := TX10) (N := 20) hx hb hU inU10 tyX10 tyX10_ok nmX10 hown hK hP hE hS (fw_V0 (f := 18) (by decide) (by decide)) rfl rfl 6 (by decide) (hU (Cond.fieldLink RX10 248 "LaundryServiceModel" "hasSaved" "Z") m_1123) (fun _ h9 => h9) rfl (by decide +kernel) rfl rfl (Nat.le_of_ble_eq_true rfl) 6 (1 : Int32) (by rw [fw_u_c]; rfl) dX10_save_33 (fun H locs hP hS => ?_)
        obtain ⟨μ3, eμ3, h⟩ := fw_l_e h
        rw [← eμ3] at hP
        refine lv_aload_n hx hb dX10_save_36 rfl (lv_at hl 0 rfl) ?_
        refine va_get (D := fw_D E) (ci := 8) (v := .ref (fw_ad E 0 19)) (C := RX10) (T := TX10) (N := 20) hx hb hU inU10 hown hK (fw_at hP (fw_V0 (f := 18) (by decide) (by decide))) 0 rfl rfl 1 (by decide) (hU (Cond.fieldLink RX10 7 "LaundryServiceModel" "s" "[I") m_1118) (fun _ h9 => h9) rfl dX10_save_37 ?_
        refine lv_iconst (v := (0 : Int32)) hx hb dX10_save_40 (by decide) ?_
        refine va_iald (D := fw_D E) hx hb hK (fw_at hP (fw_V0 (f := 19) (by decide) (by decide))) 0 0 rfl rfl (fw_in_e (n := 104) (by decide)) dX10_save_41 ?_
        exact W.iret (v := (μ3 0 19 (0 : Int32).toNatClampNeg)) hx hb hr (fw_ew (mk := Value.int) h hP hS) hS.2.2 dX10_save_42
      · rw [if_neg c2] at h
        refine lv_aload_n hx hb dX10_save_13 rfl (lv_at hl 0 rfl) ?_
        refine va_get (D := fw_D E) (ci := 8) (v := .ref (fw_ad E 0 21)) (C := RX10) (T := TX10) (N := 20) hx hb hU inU10 hown hK (fw_at hP (fw_V0 (f := 18) (by decide) (by decide))) 0 rfl rfl 3 (by decide) (hU (Cond.fieldLink RX10 16 "LaundryServiceModel" "saved" "[I") m_1120) (fun _ h9 => h9) rfl dX10_save_14 ?_
        refine lv_iload_n hx hb dX10_save_17 rfl (lv_at hl 1 rfl) ?_
        refine lv_aload_n hx hb dX10_save_18 rfl (lv_at hl 0 rfl) ?_
        refine va_get (D := fw_D E) (ci := 8) (v := .ref (fw_ad E 0 19)) (C := RX10) (T := TX10) (N := 20) hx hb hU inU10 hown hK (fw_at hP (fw_V0 (f := 18) (by decide) (by decide))) 0 rfl rfl 1 (by decide) (hU (Cond.fieldLink RX10 7 "LaundryServiceModel" "s" "[I") m_1118) (fun _ h9 => h9) rfl dX10_save_19 ?_
        refine lv_iload_n hx hb dX10_save_22 rfl (lv_at hl 1 rfl) ?_
        obtain ⟨g4, h⟩ := fw_g_e h
        refine va_iald (D := fw_D E) hx hb hK (fw_at hP (fw_V0 (f := 19) (by decide) (by decide))) 0 0 rfl rfl (fw_in_e g4) dX10_save_23 ?_
        refine fw_iast (n := 104) hx hb hK hP hE hS (fw_V0 (f := 21) (by decide) (by decide)) (fun _ => rfl) (fw_in_e g4) dX10_save_24 (fun H locs hP hS => ?_)
        obtain ⟨μ5, eμ5, h⟩ := fw_l_e h
        rw [← eμ5] at hP
        refine lv_iinc (v := (x1 + (1 : Int32))) (lv' := [(1, .int (x1 + (1 : Int32))), (0, .ref (fw_ad E 0 18))]) hx hb dX10_save_25 hl (k := 1) rfl rfl (by decide) rfl (fun ls hl => ?_)
        refine lv_goto (tgt := 7) hx hb dX10_save_28 (by decide) ?_
        exact ih7 μ5 (x1 + (1 : Int32)) H locs ls h hP hS (lv_sub hl [1, 0] rfl)
  have EN : ∀ (H : Heap) (locs : List Loc) (ls : Array Slot), fw_P E o d μ H → va_S (fw_A E) s.heap H locs → lv_has ls 2 [(0, .ref (fw_ad E 0 18))] → W p l e (headSpec (fw_ws yX10_save cX10_save 2 (some .int)) ({ frames := 0, cells := 0, slots := 0, locals := 0 } : Room)).room s m args below meth c H locs 0 0 (MQ below (fw_Q E o d (some (.int r)) μ') args s 0 0 (fw_A E)) (F0 m 0 ls []) := by
    intro H locs ls hP hS hl
    unfold f_X10_save at h
    refine lv_aload_n hx hb dX10_save_0 rfl (lv_at hl 0 rfl) ?_
    refine lv_iconst (v := (0 : Int32)) hx hb dX10_save_1 (by decide) ?_
    refine fw_put (ci := 8) (v := .int (0 : Int32)) (ty := .int) (C := RX10) (T := TX10) (N := 20) hx hb hU inU10 tyX10 tyX10_ok nmX10 hown hK hP hE hS (fw_V0 (f := 18) (by decide) (by decide)) rfl rfl 0 (by decide) (hU (Cond.fieldLink RX10 41 "LaundryServiceModel" "thrown" "I") m_1117) (fun _ h9 => h9) rfl (by decide +kernel) rfl rfl (Nat.le_of_ble_eq_true rfl) 0 (0 : Int32) (by rw [fw_u_c]; rfl) dX10_save_2 (fun H locs hP hS => ?_)
    obtain ⟨μ1, eμ1, h⟩ := fw_l_e h
    rw [← eμ1] at hP
    refine lv_iconst (v := (0 : Int32)) hx hb dX10_save_5 (by decide) ?_
    refine lv_istore_n (lv' := [(1, .int (0 : Int32)), (0, .ref (fw_ad E 0 18))]) hx hb dX10_save_6 rfl hl (by decide) rfl (fun ls hl => ?_)
    exact L7 1000 μ1 (0 : Int32) H locs ls h hP hS (lv_sub hl [1, 0] rfl)
  subst ha
  have hl := lv_entry ([.ref (fw_ad E 0 18)]) (n := 2) (Nat.le_of_ble_eq_true rfl)
  rw [lg_entry_eq]
  generalize (lg_sl ([.ref (fw_ad E 0 18)]) ++ List.replicate (2 - (lg_sl ([.ref (fw_ad E 0 18)])).length) Slot.unset).toArray = ls at hl ⊢
  exact EN s.heap [] ls hP va_S.rf hl
set_option maxHeartbeats 4000000 in
set_option maxRecDepth 100000 in
theorem k_X10_restore (l : Launch) {E : fw_E} {o : Int64} {d : UInt64} (hE : fw_ok E) {μ μ' : fw_M} {r : Int32} (h : f_X10_restore μ = some (μ', r)) : Met l yX10_restore (fw_ws yX10_restore cX10_restore 2 (some .int)) ({ frames := 1, cells := 0, slots := 0, locals := 21 } : Room) (va_Pc [.ref (fw_ad E 0 18)] (fw_Pre E o d μ)) (fw_Q E o d (some (.int r)) μ') 0 0 (fw_A E) := by
  refine Met.ofW (cc := cX10_restore) (maxL := 2) (ret := (some .int)) (by decide) rfl ?_
  intro p e s m args below meth c s₁ B hml hv
  obtain ⟨ha, hK, hP, hSt⟩ := hv
  have hx := B.exec
  have hb := B.bytes
  have hr := B.returns
  have hts := atoms_spec (ws := fw_ws yX10_restore cX10_restore 2 (some .int)) B.pre
  have hU : ∀ w ∈ fw_U, w.before args s = true := fun w hw => hts w (List.mem_cons_of_mem _ hw)
  have hown : s.vm.findClass RX10 = some m.cls := findClass_of_methodNamed B.named
  have hlocks := B.notSynchronized
  have L20 : ∀ (n : Nat) (μ : fw_M) (x1 : Int32) (H : Heap) (locs : List Loc) (ls : Array Slot), f_X10_restore_L20 n μ x1 = some (μ', r) → fw_P E o d μ H → va_S (fw_A E) s.heap H locs → lv_has ls 2 [(0, .ref (fw_ad E 0 18)), (1, .int x1)] → W p l e (headSpec (fw_ws yX10_restore cX10_restore 2 (some .int)) ({ frames := 1, cells := 0, slots := 0, locals := 21 } : Room)).room s m args below meth c H locs 0 0 (MQ below (fw_Q E o d (some (.int r)) μ') args s 0 0 (fw_A E)) (F0 m 20 ls []) := by
    intro n20
    induction n20 with
    | zero => intro μ x1 H locs ls h; rw [f_X10_restore_L20] at h; cases h
    | succ n20 ih20 =>
      intro μ x1 H locs ls h hP hS hl
      rw [f_X10_restore_L20] at h
      refine lv_iload_n hx hb dX10_restore_20 rfl (lv_at hl 1 rfl) ?_
      refine lv_bipush (v := (104 : Int32)) hx hb dX10_restore_21 (by decide) ?_
      refine lv_icmp_ge (tgt := 44) hx hb dX10_restore_23 (by decide) (fun c4 => ?_) (fun c4 => ?_)
      · rw [if_pos c4] at h
        refine lv_aload_n hx hb dX10_restore_44 rfl (lv_at hl 0 rfl) ?_
        refine lv_iconst (v := (0 : Int32)) hx hb dX10_restore_45 (by decide) ?_
        refine fw_put (ci := 8) (v := .int (0 : Int32)) (ty := .int) (C := RX10) (T := TX10) (N := 20) hx hb hU inU10 tyX10 tyX10_ok nmX10 hown hK hP hE hS (fw_V0 (f := 18) (by decide) (by decide)) rfl rfl 5 (by decide) (hU (Cond.fieldLink RX10 44 "LaundryServiceModel" "kept" "I") m_1122) (fun _ h9 => h9) rfl (by decide +kernel) rfl rfl (Nat.le_of_ble_eq_true rfl) 5 (0 : Int32) (by rw [fw_u_c]; rfl) dX10_restore_46 (fun H locs hP hS => ?_)
        obtain ⟨μ5, eμ5, h⟩ := fw_l_e h
        rw [← eμ5] at hP
        refine lv_aload_n hx hb dX10_restore_49 rfl (lv_at hl 0 rfl) ?_
        refine va_get (D := fw_D E) (ci := 8) (v := .ref (fw_ad E 0 19)) (C := RX10) (T := TX10) (N := 20) hx hb hU inU10 hown hK (fw_at hP (fw_V0 (f := 18) (by decide) (by decide))) 0 rfl rfl 1 (by decide) (hU (Cond.fieldLink RX10 7 "LaundryServiceModel" "s" "[I") m_1118) (fun _ h9 => h9) rfl dX10_restore_50 ?_
        refine lv_iconst (v := (0 : Int32)) hx hb dX10_restore_53 (by decide) ?_
        refine va_iald (D := fw_D E) hx hb hK (fw_at hP (fw_V0 (f := 19) (by decide) (by decide))) 0 0 rfl rfl (fw_in_e (n := 104) (by decide)) dX10_restore_54 ?_
        exact W.iret (v := (μ5 0 19 (0 : Int32).toNatClampNeg)) hx hb hr (fw_ew (mk := Value.int) h hP hS) hS.2.2 dX10_restore_55
      · rw [if_neg c4] at h
        refine lv_aload_n hx hb dX10_restore_26 rfl (lv_at hl 0 rfl) ?_
        refine va_get (D := fw_D E) (ci := 8) (v := .ref (fw_ad E 0 19)) (C := RX10) (T := TX10) (N := 20) hx hb hU inU10 hown hK (fw_at hP (fw_V0 (f := 18) (by decide) (by decide))) 0 rfl rfl 1 (by decide) (hU (Cond.fieldLink RX10 7 "LaundryServiceModel" "s" "[I") m_1118) (fun _ h9 => h9) rfl dX10_restore_27 ?_
        refine lv_iload_n hx hb dX10_restore_30 rfl (lv_at hl 1 rfl) ?_
        refine lv_aload_n hx hb dX10_restore_31 rfl (lv_at hl 0 rfl) ?_
        refine va_get (D := fw_D E) (ci := 8) (v := .ref (fw_ad E 0 21)) (C := RX10) (T := TX10) (N := 20) hx hb hU inU10 hown hK (fw_at hP (fw_V0 (f := 18) (by decide) (by decide))) 0 rfl rfl 3 (by decide) (hU (Cond.fieldLink RX10 16 "LaundryServiceModel" "saved" "[I") m_1120) (fun _ h9 => h9) rfl dX10_restore_32 ?_
        refine lv_iload_n hx hb dX10_restore_35 rfl (lv_at hl 1 rfl) ?_
        obtain ⟨g6, h⟩ := fw_g_e h
        refine va_iald (D := fw_D E) hx hb hK (fw_at hP (fw_V0 (f := 21) (by decide) (by decide))) 0 0 rfl rfl (fw_in_e g6) dX10_restore_36 ?_
        refine fw_iast (n := 104) hx hb hK hP hE hS (fw_V0 (f := 19) (by decide) (by decide)) (fun _ => rfl) (fw_in_e g6) dX10_restore_37 (fun H locs hP hS => ?_)
        obtain ⟨μ7, eμ7, h⟩ := fw_l_e h
        rw [← eμ7] at hP
        refine lv_iinc (v := (x1 + (1 : Int32))) (lv' := [(1, .int (x1 + (1 : Int32))), (0, .ref (fw_ad E 0 18))]) hx hb dX10_restore_38 hl (k := 1) rfl rfl (by decide) rfl (fun ls hl => ?_)
        refine lv_goto (tgt := 20) hx hb dX10_restore_41 (by decide) ?_
        exact ih20 μ7 (x1 + (1 : Int32)) H locs ls h hP hS (lv_sub hl [1, 0] rfl)
  have EN : ∀ (H : Heap) (locs : List Loc) (ls : Array Slot), fw_P E o d μ H → va_S (fw_A E) s.heap H locs → lv_has ls 2 [(0, .ref (fw_ad E 0 18))] → W p l e (headSpec (fw_ws yX10_restore cX10_restore 2 (some .int)) ({ frames := 1, cells := 0, slots := 0, locals := 21 } : Room)).room s m args below meth c H locs 0 0 (MQ below (fw_Q E o d (some (.int r)) μ') args s 0 0 (fw_A E)) (F0 m 0 ls []) := by
    intro H locs ls hP hS hl
    unfold f_X10_restore at h
    refine lv_aload_n hx hb dX10_restore_0 rfl (lv_at hl 0 rfl) ?_
    refine lv_iconst (v := (0 : Int32)) hx hb dX10_restore_1 (by decide) ?_
    refine fw_put (ci := 8) (v := .int (0 : Int32)) (ty := .int) (C := RX10) (T := TX10) (N := 20) hx hb hU inU10 tyX10 tyX10_ok nmX10 hown hK hP hE hS (fw_V0 (f := 18) (by decide) (by decide)) rfl rfl 0 (by decide) (hU (Cond.fieldLink RX10 41 "LaundryServiceModel" "thrown" "I") m_1117) (fun _ h9 => h9) rfl (by decide +kernel) rfl rfl (Nat.le_of_ble_eq_true rfl) 0 (0 : Int32) (by rw [fw_u_c]; rfl) dX10_restore_2 (fun H locs hP hS => ?_)
    obtain ⟨μ1, eμ1, h⟩ := fw_l_e h
    rw [← eμ1] at hP
    refine lv_aload_n hx hb dX10_restore_5 rfl (lv_at hl 0 rfl) ?_
    refine va_get (D := fw_D E) (ci := 8) (v := .int (μ1 0 18 6)) (C := RX10) (T := TX10) (N := 20) hx hb hU inU10 hown hK (fw_at hP (fw_V0 (f := 18) (by decide) (by decide))) 0 rfl rfl 6 (by decide) (hU (Cond.fieldLink RX10 248 "LaundryServiceModel" "hasSaved" "Z") m_1123) (fun _ h9 => h9) rfl dX10_restore_6 ?_
    refine lv_if_ne (tgt := 18) hx hb dX10_restore_9 (by decide) (fun c2 => ?_) (fun c2 => ?_)
    · rw [if_neg c2] at h
      refine lv_iconst (v := (0 : Int32)) hx hb dX10_restore_18 (by decide) ?_
      refine lv_istore_n (lv' := [(1, .int (0 : Int32)), (0, .ref (fw_ad E 0 18))]) hx hb dX10_restore_19 rfl hl (by decide) rfl (fun ls hl => ?_)
      exact L20 1000 μ1 (0 : Int32) H locs ls h hP hS (lv_sub hl [1, 0] rfl)
    · rw [if_pos c2] at h
      refine lv_aload_n hx hb dX10_restore_12 rfl (lv_at hl 0 rfl) ?_
      refine lv_iconst (v := (1 : Int32)) hx hb dX10_restore_13 (by decide) ?_
      obtain ⟨μ3, r3, hc3, h⟩ := fw_b2_e h
      refine fw_ret (va_runV (As := [.int (1 : Int32)]) (rest := []) ⟨hx, hb, hml, hown, hU⟩ (k_X10_fails l hE (1 : Int32) hc3) (cwV 1 hU (fw_gV m_1216 m_1218 ms_17 m_9 m_1219) rfl rfl rfl (by decide +kernel) ⟨(Nat.le_of_ble_eq_true rfl), (Nat.le_of_ble_eq_true rfl)⟩) ⟨fw_blind, fw_recv hK hP (fw_V0 (f := 18) (by decide) (by decide)) rfl rfl, fun U hU9 hW9 => ⟨rfl, fw_pre hK hP hSt hS U hU9 hW9⟩⟩ rfl rfl hl.1 rfl (lv_room (Nat.le_of_ble_eq_true rfl)) dX10_restore_14 ⟨Nat.zero_le _, Nat.zero_le _⟩) hS (fun H locs hP hS => ?_)
      exact W.iret (v := r3) hx hb hr (fw_ew (mk := Value.int) h hP hS) hS.2.2 dX10_restore_17
  subst ha
  have hl := lv_entry ([.ref (fw_ad E 0 18)]) (n := 2) (Nat.le_of_ble_eq_true rfl)
  rw [lg_entry_eq]
  generalize (lg_sl ([.ref (fw_ad E 0 18)]) ++ List.replicate (2 - (lg_sl ([.ref (fw_ad E 0 18)])).length) Slot.unset).toArray = ls at hl ⊢
  exact EN s.heap [] ls hP va_S.rf hl
