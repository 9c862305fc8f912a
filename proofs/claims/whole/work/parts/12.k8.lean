/-! contracts, laid by wip/whole/lay.py out of the bytecode listing -/
set_option maxHeartbeats 4000000 in
set_option maxRecDepth 100000 in
theorem k_X8_removedAt (l : Launch) {E : fw_E} {o : Int64} {d : UInt64} (hE : fw_ok E) {μ : fw_M} (x0 : Int32) {r : Int32} (h : f_X8_removedAt μ x0 = some r) : Met l yX8_removedAt (fw_ws yX8_removedAt cX8_removedAt 3 (some .int)) ({ frames := 0, cells := 0, slots := 0, locals := 0 } : Room) (va_Pc [.int x0] (fw_Pre E o d μ)) (fw_Q E o d (some (.int r)) μ) 0 0 (fw_A E) := by
  refine Met.ofW (cc := cX8_removedAt) (maxL := 3) (ret := (some .int)) (by decide) rfl ?_
  intro p e s m args below meth c s₁ B hml hv
  obtain ⟨ha, hK, hP, hSt⟩ := hv
  have hx := B.exec
  have hb := B.bytes
  have hr := B.returns
  have hts := atoms_spec (ws := fw_ws yX8_removedAt cX8_removedAt 3 (some .int)) B.pre
  have hU : ∀ w ∈ fw_U, w.before args s = true := fun w hw => hts w (List.mem_cons_of_mem _ hw)
  have hown : s.vm.findClass RX8 = some m.cls := findClass_of_methodNamed B.named
  have hlocks := B.notSynchronized
  have L4 : ∀ (n : Nat) (x0 : Int32) (x1 : Int32) (x2 : Int32) (H : Heap) (locs : List Loc) (ls : Array Slot), f_X8_removedAt_L4 μ n x0 x1 x2 = some r → fw_P E o d μ H → va_S (fw_A E) s.heap H locs → lv_has ls 3 [(0, .int x0), (1, .int x1), (2, .int x2)] → W p l e (headSpec (fw_ws yX8_removedAt cX8_removedAt 3 (some .int)) ({ frames := 0, cells := 0, slots := 0, locals := 0 } : Room)).room s m args below meth c H locs 0 0 (MQ below (fw_Q E o d (some (.int r)) μ) args s 0 0 (fw_A E)) (F0 m 4 ls []) := by
    intro n4
    induction n4 with
    | zero => intro x0 x1 x2 H locs ls h; rw [f_X8_removedAt_L4] at h; cases h
    | succ n4 ih4 =>
      intro x0 x1 x2 H locs ls h hP hS hl
      rw [f_X8_removedAt_L4] at h
      refine lv_iload_n hx hb dX8_removedAt_4 rfl (lv_at hl 2 rfl) ?_
      refine lv_bipush (v := (8 : Int32)) hx hb dX8_removedAt_5 (by decide) ?_
      refine lv_icmp_ge (tgt := 33) hx hb dX8_removedAt_7 (by decide) (fun c1 => ?_) (fun c1 => ?_)
      · rw [if_pos c1] at h
        refine lv_iload_n hx hb dX8_removedAt_33 rfl (lv_at hl 1 rfl) ?_
        exact W.iret (v := x1) hx hb hr (fw_er (mk := Value.int) h hP hS) hS.2.2 dX8_removedAt_34
      · rw [if_neg c1] at h
        refine lv_iload_n hx hb dX8_removedAt_10 rfl (lv_at hl 0 rfl) ?_
        refine lv_bipush (v := (50 : Int32)) hx hb dX8_removedAt_11 (by decide) ?_
        refine lv_bipush (v := (10 : Int32)) hx hb dX8_removedAt_13 (by decide) ?_
        refine lv_iload_n hx hb dX8_removedAt_15 rfl (lv_at hl 2 rfl) ?_
        refine lv_imul hx hb dX8_removedAt_16 ?_
        refine lv_iadd hx hb dX8_removedAt_17 ?_
        refine lv_icmp_lt (tgt := 27) hx hb dX8_removedAt_18 (by decide) (fun c2 => ?_) (fun c2 => ?_)
        · rw [if_pos c2] at h
          refine lv_iinc (v := (x2 + (1 : Int32))) (lv' := [(2, .int (x2 + (1 : Int32))), (0, .int x0), (1, .int x1)]) hx hb dX8_removedAt_27 hl (k := 2) rfl rfl (by decide) rfl (fun ls hl => ?_)
          refine lv_goto (tgt := 4) hx hb dX8_removedAt_30 (by decide) ?_
          exact ih4 x0 x1 (x2 + (1 : Int32)) H locs ls h hP hS (lv_sub hl [1, 2, 0] rfl)
        · rw [if_neg c2] at h
          refine lv_iload_n hx hb dX8_removedAt_21 rfl (lv_at hl 1 rfl) ?_
          refine lv_iconst (v := (1 : Int32)) hx hb dX8_removedAt_22 (by decide) ?_
          refine lv_iload_n hx hb dX8_removedAt_23 rfl (lv_at hl 2 rfl) ?_
          refine lv_ishl hx hb dX8_removedAt_24 ?_
          refine lv_ior hx hb dX8_removedAt_25 ?_
          refine lv_istore_n (lv' := [(1, .int (x1 ||| ((1 : Int32) <<< (x2 &&& (31 : Int32))))), (0, .int x0), (2, .int x2)]) hx hb dX8_removedAt_26 rfl hl (by decide) rfl (fun ls hl => ?_)
          refine lv_iinc (v := (x2 + (1 : Int32))) (lv' := [(2, .int (x2 + (1 : Int32))), (1, .int (x1 ||| ((1 : Int32) <<< (x2 &&& (31 : Int32))))), (0, .int x0)]) hx hb dX8_removedAt_27 hl (k := 2) rfl rfl (by decide) rfl (fun ls hl => ?_)
          refine lv_goto (tgt := 4) hx hb dX8_removedAt_30 (by decide) ?_
          exact ih4 x0 (x1 ||| ((1 : Int32) <<< (x2 &&& (31 : Int32)))) (x2 + (1 : Int32)) H locs ls h hP hS (lv_sub hl [2, 1, 0] rfl)
  have EN : ∀ (H : Heap) (locs : List Loc) (ls : Array Slot), fw_P E o d μ H → va_S (fw_A E) s.heap H locs → lv_has ls 3 [(0, .int x0)] → W p l e (headSpec (fw_ws yX8_removedAt cX8_removedAt 3 (some .int)) ({ frames := 0, cells := 0, slots := 0, locals := 0 } : Room)).room s m args below meth c H locs 0 0 (MQ below (fw_Q E o d (some (.int r)) μ) args s 0 0 (fw_A E)) (F0 m 0 ls []) := by
    intro H locs ls hP hS hl
    unfold f_X8_removedAt at h
    refine lv_iconst (v := (0 : Int32)) hx hb dX8_removedAt_0 (by decide) ?_
    refine lv_istore_n (lv' := [(1, .int (0 : Int32)), (0, .int x0)]) hx hb dX8_removedAt_1 rfl hl (by decide) rfl (fun ls hl => ?_)
    refine lv_iconst (v := (0 : Int32)) hx hb dX8_removedAt_2 (by decide) ?_
    refine lv_istore_n (lv' := [(2, .int (0 : Int32)), (1, .int (0 : Int32)), (0, .int x0)]) hx hb dX8_removedAt_3 rfl hl (by decide) rfl (fun ls hl => ?_)
    exact L4 1000 x0 (0 : Int32) (0 : Int32) H locs ls h hP hS (lv_sub hl [2, 1, 0] rfl)
  subst ha
  have hl := lv_entry ([.int x0]) (n := 3) (Nat.le_of_ble_eq_true rfl)
  rw [lg_entry_eq]
  generalize (lg_sl ([.int x0]) ++ List.replicate (3 - (lg_sl ([.int x0])).length) Slot.unset).toArray = ls at hl ⊢
  exact EN s.heap [] ls hP va_S.rf hl
set_option maxHeartbeats 4000000 in
set_option maxRecDepth 100000 in
theorem k_X8_removeStains (l : Launch) {E : fw_E} {o : Int64} {d : UInt64} (hE : fw_ok E) {μ μ' : fw_M} {j0 : Nat} (hj0 : j0 < 12) (x1 : Int32) {r : Unit} (h : f_X8_removeStains μ j0 x1 = some (μ', r)) : Met l yX8_removeStains (fw_ws yX8_removeStains cX8_removeStains 4 none) ({ frames := 1, cells := 0, slots := 0, locals := 22 } : Room) (va_Pc [.ref (fw_ad E j0 0), .int x1] (fw_Pre E o d μ)) (fw_Q E o d none μ') 0 0 (fw_A E) := by
  refine Met.ofW (cc := cX8_removeStains) (maxL := 4) (ret := none) (by decide) rfl ?_
  intro p e s m args below meth c s₁ B hml hv
  obtain ⟨ha, hK, hP, hSt⟩ := hv
  have hx := B.exec
  have hb := B.bytes
  have hr := B.returns
  have hts := atoms_spec (ws := fw_ws yX8_removeStains cX8_removeStains 4 none) B.pre
  have hU : ∀ w ∈ fw_U, w.before args s = true := fun w hw => hts w (List.mem_cons_of_mem _ hw)
  have hown : s.vm.findClass RX8 = some m.cls := findClass_of_methodNamed B.named
  have hlocks := B.notSynchronized
  have L12 : ∀ (n : Nat) (μ : fw_M) (x1 : Int32) (x2 : Int32) (x3 : Int32) (H : Heap) (locs : List Loc) (ls : Array Slot), f_X8_removeStains_L12 j0 n μ x1 x2 x3 = some (μ', r) → fw_P E o d μ H → va_S (fw_A E) s.heap H locs → lv_has ls 4 [(0, .ref (fw_ad E j0 0)), (1, .int x1), (2, .int x2), (3, .int x3)] → W p l e (headSpec (fw_ws yX8_removeStains cX8_removeStains 4 none) ({ frames := 1, cells := 0, slots := 0, locals := 22 } : Room)).room s m args below meth c H locs 0 0 (MQ below (fw_Q E o d none μ') args s 0 0 (fw_A E)) (F0 m 12 ls []) := by
    intro n12
    induction n12 with
    | zero => intro μ x1 x2 x3 H locs ls h; rw [f_X8_removeStains_L12] at h; cases h
    | succ n12 ih12 =>
      intro μ x1 x2 x3 H locs ls h hP hS hl
      rw [f_X8_removeStains_L12] at h
      refine lv_iload_n hx hb dX8_removeStains_12 rfl (lv_at hl 3 rfl) ?_
      refine lv_aload_n hx hb dX8_removeStains_13 rfl (lv_at hl 0 rfl) ?_
      refine va_get (D := fw_D E) (ci := 6) (v := .int (μ j0 0 6)) (C := RX7) (T := TX7) (N := 10) hx hb hU inU7 hown hK (fw_at hP (fw_Vs (f := 0) (by decide) hj0)) 0 rfl rfl 6 (by decide) (hU (Cond.fieldLink RX8 38 "LaundryService$State" "garmentCount" "I") m_67) (fun _ h9 => h9) rfl dX8_removeStains_14 ?_
      refine lv_icmp_ge (tgt := 47) hx hb dX8_removeStains_17 (by decide) (fun c3 => ?_) (fun c3 => ?_)
      · rw [if_pos c3] at h
        exact W.vret hx hb hr (fw_ev h hP hS) hS.2.2 dX8_removeStains_47
      · rw [if_neg c3] at h
        refine lv_aload_n hx hb dX8_removeStains_20 rfl (lv_at hl 0 rfl) ?_
        refine lv_iload_n hx hb dX8_removeStains_21 rfl (lv_at hl 3 rfl) ?_
        refine lv_iload_n hx hb dX8_removeStains_22 rfl (lv_at hl 1 rfl) ?_
        obtain ⟨r4, hc4, h⟩ := fw_b1_e h
        refine fw_ret (va_runV (As := [.int x3, .int x1]) (rest := []) ⟨hx, hb, hml, hown, hU⟩ (k_X7_isIn l hE hj0 x3 x1 hc4) (cwV 2 hU (fw_gV m_276 m_256 m_257 m_2 m_258) rfl rfl rfl (by decide +kernel) ⟨(Nat.le_of_ble_eq_true rfl), (Nat.le_of_ble_eq_true rfl)⟩) ⟨fw_blind, fw_recv hK hP (fw_Vs (f := 0) (by decide) hj0) rfl rfl, fun U hU9 hW9 => ⟨rfl, fw_pre hK hP hSt hS U hU9 hW9⟩⟩ rfl rfl hl.1 rfl (lv_room (Nat.le_of_ble_eq_true rfl)) dX8_removeStains_23 ⟨Nat.zero_le _, Nat.zero_le _⟩) hS (fun H locs hP hS => ?_)
        refine lv_if_eq (tgt := 41) hx hb dX8_removeStains_26 (by decide) (fun c5 => ?_) (fun c5 => ?_)
        · rw [if_pos c5] at h
          refine lv_iinc (v := (x3 + (1 : Int32))) (lv' := [(3, .int (x3 + (1 : Int32))), (0, .ref (fw_ad E j0 0)), (1, .int x1), (2, .int x2)]) hx hb dX8_removeStains_41 hl (k := 3) rfl rfl (by decide) rfl (fun ls hl => ?_)
          refine lv_goto (tgt := 12) hx hb dX8_removeStains_44 (by decide) ?_
          exact ih12 μ x1 x2 (x3 + (1 : Int32)) H locs ls h hP hS (lv_sub hl [1, 2, 3, 0] rfl)
        · rw [if_neg c5] at h
          refine lv_aload_n hx hb dX8_removeStains_29 rfl (lv_at hl 0 rfl) ?_
          refine va_get (D := fw_D E) (ci := 6) (v := .ref (fw_ad E j0 4)) (C := RX7) (T := TX7) (N := 10) hx hb hU inU7 hown hK (fw_at hP (fw_Vs (f := 0) (by decide) hj0)) 0 rfl rfl 3 (by decide) (hU (Cond.fieldLink RX8 56 "LaundryService$State" "stains" "[I") m_57) (fun _ h9 => h9) rfl dX8_removeStains_30 ?_
          refine lv_iload_n hx hb dX8_removeStains_33 rfl (lv_at hl 3 rfl) ?_
          refine lv_dup2_11 hx hb dX8_removeStains_34 rfl rfl ?_
          obtain ⟨g6, h⟩ := fw_g_e h
          refine va_iald (D := fw_D E) hx hb hK (fw_at hP (fw_Vs (f := 4) (by decide) hj0)) 0 0 rfl rfl (fw_in_e g6) dX8_removeStains_35 ?_
          refine lv_iload_n hx hb dX8_removeStains_36 rfl (lv_at hl 2 rfl) ?_
          refine lv_iconst (v := (-1 : Int32)) hx hb dX8_removeStains_37 (by decide) ?_
          refine lv_ixor hx hb dX8_removeStains_38 ?_
          refine lv_iand hx hb dX8_removeStains_39 ?_
          refine fw_iast (n := 16) hx hb hK hP hE hS (fw_Vs (f := 4) (by decide) hj0) (fun _ => rfl) (fw_in_e g6) dX8_removeStains_40 (fun H locs hP hS => ?_)
          obtain ⟨μ7, eμ7, h⟩ := fw_l_e h
          rw [← eμ7] at hP
          refine lv_iinc (v := (x3 + (1 : Int32))) (lv' := [(3, .int (x3 + (1 : Int32))), (0, .ref (fw_ad E j0 0)), (1, .int x1), (2, .int x2)]) hx hb dX8_removeStains_41 hl (k := 3) rfl rfl (by decide) rfl (fun ls hl => ?_)
          refine lv_goto (tgt := 12) hx hb dX8_removeStains_44 (by decide) ?_
          exact ih12 μ7 x1 x2 (x3 + (1 : Int32)) H locs ls h hP hS (lv_sub hl [1, 2, 3, 0] rfl)
  have EN : ∀ (H : Heap) (locs : List Loc) (ls : Array Slot), fw_P E o d μ H → va_S (fw_A E) s.heap H locs → lv_has ls 4 [(0, .ref (fw_ad E j0 0)), (1, .int x1)] → W p l e (headSpec (fw_ws yX8_removeStains cX8_removeStains 4 none) ({ frames := 1, cells := 0, slots := 0, locals := 22 } : Room)).room s m args below meth c H locs 0 0 (MQ below (fw_Q E o d none μ') args s 0 0 (fw_A E)) (F0 m 0 ls []) := by
    intro H locs ls hP hS hl
    unfold f_X8_removeStains at h
    refine lv_aload_n hx hb dX8_removeStains_0 rfl (lv_at hl 0 rfl) ?_
    refine va_get (D := fw_D E) (ci := 6) (v := .ref (fw_ad E j0 7)) (C := RX7) (T := TX7) (N := 10) hx hb hU inU7 hown hK (fw_at hP (fw_Vs (f := 0) (by decide) hj0)) 0 rfl rfl 7 (by decide) (hU (Cond.fieldLink RX8 49 "LaundryService$State" "halves" "[I") m_70) (fun _ h9 => h9) rfl dX8_removeStains_1 ?_
    refine lv_iload_n hx hb dX8_removeStains_4 rfl (lv_at hl 1 rfl) ?_
    obtain ⟨g1, h⟩ := fw_g_e h
    refine va_iald (D := fw_D E) hx hb hK (fw_at hP (fw_Vs (f := 7) (by decide) hj0)) 0 0 rfl rfl (fw_in_e g1) dX8_removeStains_5 ?_
    obtain ⟨r2, hc2, h⟩ := fw_b1_e h
    refine fw_ret (va_runS (As := [.int (μ j0 7 x1.toNatClampNeg)]) (rest := []) ⟨hx, hb, hml, hown, hU⟩ (k_X8_removedAt l hE (μ j0 7 x1.toNatClampNeg) hc2) (va_cwS 1 hU (fw_gS m_248 m_249 m_23 m_250) rfl rfl rfl (by decide +kernel) ⟨(Nat.le_of_ble_eq_true rfl), (Nat.le_of_ble_eq_true rfl)⟩) ⟨fw_blind, fun U hU9 hW9 => ⟨rfl, fw_pre hK hP hSt hS U hU9 hW9⟩⟩ rfl rfl hl.1 rfl (lv_room (Nat.le_of_ble_eq_true rfl)) dX8_removeStains_6 ⟨Nat.zero_le _, Nat.zero_le _⟩) hS (fun H locs hP hS => ?_)
    refine lv_istore_n (lv' := [(2, .int r2), (0, .ref (fw_ad E j0 0)), (1, .int x1)]) hx hb dX8_removeStains_9 rfl hl (by decide) rfl (fun ls hl => ?_)
    refine lv_iconst (v := (0 : Int32)) hx hb dX8_removeStains_10 (by decide) ?_
    refine lv_istore_n (lv' := [(3, .int (0 : Int32)), (2, .int r2), (0, .ref (fw_ad E j0 0)), (1, .int x1)]) hx hb dX8_removeStains_11 rfl hl (by decide) rfl (fun ls hl => ?_)
    exact L12 1000 μ x1 r2 (0 : Int32) H locs ls h hP hS (lv_sub hl [2, 3, 1, 0] rfl)
  subst ha
  have hl := lv_entry ([.ref (fw_ad E j0 0), .int x1]) (n := 4) (Nat.le_of_ble_eq_true rfl)
  rw [lg_entry_eq]
  generalize (lg_sl ([.ref (fw_ad E j0 0), .int x1]) ++ List.replicate (4 - (lg_sl ([.ref (fw_ad E j0 0), .int x1])).length) Slot.unset).toArray = ls at hl ⊢
  exact EN s.heap [] ls hP va_S.rf hl
set_option maxHeartbeats 4000000 in
set_option maxRecDepth 100000 in
theorem k_X8_letColoursRun (l : Launch) {E : fw_E} {o : Int64} {d : UInt64} (hE : fw_ok E) {μ μ' : fw_M} {j0 : Nat} (hj0 : j0 < 12) (x1 : Int32) {r : Int32} (h : f_X8_letColoursRun μ j0 x1 = some (μ', r)) : Met l yX8_letColoursRun (fw_ws yX8_letColoursRun cX8_letColoursRun 5 (some .int)) ({ frames := 2, cells := 0, slots := 0, locals := 45 } : Room) (va_Pc [.ref (fw_ad E j0 0), .int x1] (fw_Pre E o d μ)) (fw_Q E o d (some (.int r)) μ') 0 0 (fw_A E) := by
  refine Met.ofW (cc := cX8_letColoursRun) (maxL := 5) (ret := (some .int)) (by decide) rfl ?_
  intro p e s m args below meth c s₁ B hml hv
  obtain ⟨ha, hK, hP, hSt⟩ := hv
  have hx := B.exec
  have hb := B.bytes
  have hr := B.returns
  have hts := atoms_spec (ws := fw_ws yX8_letColoursRun cX8_letColoursRun 5 (some .int)) B.pre
  have hU : ∀ w ∈ fw_U, w.before args s = true := fun w hw => hts w (List.mem_cons_of_mem _ hw)
  have hown : s.vm.findClass RX8 = some m.cls := findClass_of_methodNamed B.named
  have hlocks := B.notSynchronized
  have L26 : ∀ (n : Nat) (μ : fw_M) (x1 : Int32) (x2 : Int32) (x3 : Int32) (x4 : Int32) (H : Heap) (locs : List Loc) (ls : Array Slot), f_X8_letColoursRun_L26 j0 n μ x1 x2 x3 x4 = some (μ', r) → fw_P E o d μ H → va_S (fw_A E) s.heap H locs → lv_has ls 5 [(0, .ref (fw_ad E j0 0)), (1, .int x1), (2, .int x2), (3, .int x3), (4, .int x4)] → W p l e (headSpec (fw_ws yX8_letColoursRun cX8_letColoursRun 5 (some .int)) ({ frames := 2, cells := 0, slots := 0, locals := 45 } : Room)).room s m args below meth c H locs 0 0 (MQ below (fw_Q E o d (some (.int r)) μ') args s 0 0 (fw_A E)) (F0 m 26 ls []) := by
    intro n26
    induction n26 with
    | zero => intro μ x1 x2 x3 x4 H locs ls h; rw [f_X8_letColoursRun_L26] at h; cases h
    | succ n26 ih26 =>
      have J73 : ∀ (μ : fw_M) (x1 : Int32) (x2 : Int32) (x4 : Int32) (s0 : Int32) (s1 : Int32) (H : Heap) (locs : List Loc) (ls : Array Slot), f_X8_letColoursRun_J73 (f_X8_letColoursRun_L26 j0 n26) j0 μ x1 x2 x4 s0 s1 = some (μ', r) → fw_P E o d μ H → va_S (fw_A E) s.heap H locs → lv_has ls 5 [(0, .ref (fw_ad E j0 0)), (1, .int x1), (2, .int x2), (4, .int x4)] → W p l e (headSpec (fw_ws yX8_letColoursRun cX8_letColoursRun 5 (some .int)) ({ frames := 2, cells := 0, slots := 0, locals := 45 } : Room)).room s m args below meth c H locs 0 0 (MQ below (fw_Q E o d (some (.int r)) μ') args s 0 0 (fw_A E)) (F0 m 73 ls [.int s1, .int s0]) := by
        intro μ x1 x2 x4 s0 s1 H locs ls h hP hS hl
        unfold f_X8_letColoursRun_J73 at h
        refine lv_iadd hx hb dX8_letColoursRun_73 ?_
        refine lv_istore_n (lv' := [(3, .int (s0 + s1)), (0, .ref (fw_ad E j0 0)), (1, .int x1), (2, .int x2), (4, .int x4)]) hx hb dX8_letColoursRun_74 rfl hl (by decide) rfl (fun ls hl => ?_)
        refine lv_aload_n hx hb dX8_letColoursRun_75 rfl (lv_at hl 1 rfl) ?_
        refine va_get (D := fw_D E) (ci := 6) (v := .ref (fw_ad E j0 4)) (C := RX7) (T := TX7) (N := 10) hx hb hU inU7 hown hK (fw_at hP (fw_Vs (f := 0) (by decide) hj0)) 0 rfl rfl 3 (by decide) (hU (Cond.fieldLink RX8 56 "LaundryService$State" "stains" "[I") m_57) (fun _ h9 => h9) rfl dX8_letColoursRun_76 ?_
        refine lv_iload hx hb dX8_letColoursRun_79 (lv_at hl 4 rfl) ?_
        refine lv_dup2_11 hx hb dX8_letColoursRun_81 rfl rfl ?_
        obtain ⟨g10, h⟩ := fw_g_e h
        refine va_iald (D := fw_D E) hx hb hK (fw_at hP (fw_Vs (f := 4) (by decide) hj0)) 0 0 rfl rfl (fw_in_e g10) dX8_letColoursRun_82 ?_
        refine lv_iload_n hx hb dX8_letColoursRun_83 rfl (lv_at hl 3 rfl) ?_
        refine lv_ior hx hb dX8_letColoursRun_84 ?_
        refine fw_iast (n := 16) hx hb hK hP hE hS (fw_Vs (f := 4) (by decide) hj0) (fun _ => rfl) (fw_in_e g10) dX8_letColoursRun_85 (fun H locs hP hS => ?_)
        obtain ⟨μ11, eμ11, h⟩ := fw_l_e h
        rw [← eμ11] at hP
        refine lv_iinc (v := (x4 + (1 : Int32))) (lv' := [(4, .int (x4 + (1 : Int32))), (3, .int (s0 + s1)), (0, .ref (fw_ad E j0 0)), (1, .int x1), (2, .int x2)]) hx hb dX8_letColoursRun_86 hl (k := 4) rfl rfl (by decide) rfl (fun ls hl => ?_)
        refine lv_goto (tgt := 26) hx hb dX8_letColoursRun_89 (by decide) ?_
        exact ih26 μ11 x1 x2 (s0 + s1) (x4 + (1 : Int32)) H locs ls h hP hS (lv_sub hl [2, 3, 4, 1, 0] rfl)
      intro μ x1 x2 x3 x4 H locs ls h hP hS hl
      rw [f_X8_letColoursRun_L26] at h
      refine lv_iload hx hb dX8_letColoursRun_26 (lv_at hl 4 rfl) ?_
      refine lv_aload_n hx hb dX8_letColoursRun_28 rfl (lv_at hl 0 rfl) ?_
      refine va_get (D := fw_D E) (ci := 6) (v := .int (μ j0 0 6)) (C := RX7) (T := TX7) (N := 10) hx hb hU inU7 hown hK (fw_at hP (fw_Vs (f := 0) (by decide) hj0)) 0 rfl rfl 6 (by decide) (hU (Cond.fieldLink RX8 38 "LaundryService$State" "garmentCount" "I") m_67) (fun _ h9 => h9) rfl dX8_letColoursRun_29 ?_
      refine lv_icmp_ge (tgt := 92) hx hb dX8_letColoursRun_32 (by decide) (fun c4 => ?_) (fun c4 => ?_)
      · rw [if_pos c4] at h
        refine lv_iload_n hx hb dX8_letColoursRun_92 rfl (lv_at hl 3 rfl) ?_
        exact W.iret (v := x3) hx hb hr (fw_ew (mk := Value.int) h hP hS) hS.2.2 dX8_letColoursRun_93
      · rw [if_neg c4] at h
        refine lv_aload_n hx hb dX8_letColoursRun_35 rfl (lv_at hl 0 rfl) ?_
        refine lv_iload hx hb dX8_letColoursRun_36 (lv_at hl 4 rfl) ?_
        refine lv_iload_n hx hb dX8_letColoursRun_38 rfl (lv_at hl 1 rfl) ?_
        obtain ⟨r5, hc5, h⟩ := fw_b1_e h
        refine fw_ret (va_runV (As := [.int x4, .int x1]) (rest := []) ⟨hx, hb, hml, hown, hU⟩ (k_X7_isIn l hE hj0 x4 x1 hc5) (cwV 2 hU (fw_gV m_276 m_256 m_257 m_2 m_258) rfl rfl rfl (by decide +kernel) ⟨(Nat.le_of_ble_eq_true rfl), (Nat.le_of_ble_eq_true rfl)⟩) ⟨fw_blind, fw_recv hK hP (fw_Vs (f := 0) (by decide) hj0) rfl rfl, fun U hU9 hW9 => ⟨rfl, fw_pre hK hP hSt hS U hU9 hW9⟩⟩ rfl rfl hl.1 rfl (lv_room (Nat.le_of_ble_eq_true rfl)) dX8_letColoursRun_39 ⟨Nat.zero_le _, Nat.zero_le _⟩) hS (fun H locs hP hS => ?_)
        refine lv_if_eq (tgt := 86) hx hb dX8_letColoursRun_42 (by decide) (fun c6 => ?_) (fun c6 => ?_)
        · rw [if_pos c6] at h
          refine lv_iinc (v := (x4 + (1 : Int32))) (lv' := [(4, .int (x4 + (1 : Int32))), (0, .ref (fw_ad E j0 0)), (1, .int x1), (2, .int x2), (3, .int x3)]) hx hb dX8_letColoursRun_86 hl (k := 4) rfl rfl (by decide) rfl (fun ls hl => ?_)
          refine lv_goto (tgt := 26) hx hb dX8_letColoursRun_89 (by decide) ?_
          exact ih26 μ x1 x2 x3 (x4 + (1 : Int32)) H locs ls h hP hS (lv_sub hl [1, 2, 3, 4, 0] rfl)
        · rw [if_neg c6] at h
          refine lv_aload_n hx hb dX8_letColoursRun_45 rfl (lv_at hl 0 rfl) ?_
          refine va_get (D := fw_D E) (ci := 6) (v := .ref (fw_ad E j0 3)) (C := RX7) (T := TX7) (N := 10) hx hb hU inU7 hown hK (fw_at hP (fw_Vs (f := 0) (by decide) hj0)) 0 rfl rfl 2 (by decide) (hU (Cond.fieldLink RX8 62 "LaundryService$State" "colours" "[I") m_54) (fun _ h9 => h9) rfl dX8_letColoursRun_46 ?_
          refine lv_iload hx hb dX8_letColoursRun_49 (lv_at hl 4 rfl) ?_
          obtain ⟨g7, h⟩ := fw_g_e h
          refine va_iald (D := fw_D E) hx hb hK (fw_at hP (fw_Vs (f := 3) (by decide) hj0)) 0 0 rfl rfl (fw_in_e g7) dX8_letColoursRun_51 ?_
          refine lv_if_ne (tgt := 86) hx hb dX8_letColoursRun_52 (by decide) (fun c8 => ?_) (fun c8 => ?_)
          · rw [if_neg c8] at h
            refine lv_iinc (v := (x4 + (1 : Int32))) (lv' := [(4, .int (x4 + (1 : Int32))), (0, .ref (fw_ad E j0 0)), (1, .int x1), (2, .int x2), (3, .int x3)]) hx hb dX8_letColoursRun_86 hl (k := 4) rfl rfl (by decide) rfl (fun ls hl => ?_)
            refine lv_goto (tgt := 26) hx hb dX8_letColoursRun_89 (by decide) ?_
            exact ih26 μ x1 x2 x3 (x4 + (1 : Int32)) H locs ls h hP hS (lv_sub hl [1, 2, 3, 4, 0] rfl)
          · rw [if_pos c8] at h
            refine lv_iload_n hx hb dX8_letColoursRun_55 rfl (lv_at hl 3 rfl) ?_
            refine lv_aload_n hx hb dX8_letColoursRun_56 rfl (lv_at hl 0 rfl) ?_
            refine va_get (D := fw_D E) (ci := 6) (v := .ref (fw_ad E j0 4)) (C := RX7) (T := TX7) (N := 10) hx hb hU inU7 hown hK (fw_at hP (fw_Vs (f := 0) (by decide) hj0)) 0 rfl rfl 3 (by decide) (hU (Cond.fieldLink RX8 56 "LaundryService$State" "stains" "[I") m_57) (fun _ h9 => h9) rfl dX8_letColoursRun_57 ?_
            refine lv_iload hx hb dX8_letColoursRun_60 (lv_at hl 4 rfl) ?_
            refine va_iald (D := fw_D E) hx hb hK (fw_at hP (fw_Vs (f := 4) (by decide) hj0)) 0 0 rfl rfl (fw_in_e g7) dX8_letColoursRun_62 ?_
            refine lv_iload_n hx hb dX8_letColoursRun_63 rfl (lv_at hl 2 rfl) ?_
            refine lv_iand hx hb dX8_letColoursRun_64 ?_
            refine lv_if_ne (tgt := 72) hx hb dX8_letColoursRun_65 (by decide) (fun c9 => ?_) (fun c9 => ?_)
            · rw [if_neg c9] at h
              refine lv_iconst (v := (0 : Int32)) hx hb dX8_letColoursRun_72 (by decide) ?_
              exact J73 μ x1 x2 x4 x3 (0 : Int32) H locs ls h hP hS (lv_sub hl [0, 1, 2, 4] rfl)
            · rw [if_pos c9] at h
              refine lv_iconst (v := (1 : Int32)) hx hb dX8_letColoursRun_68 (by decide) ?_
              refine lv_goto (tgt := 73) hx hb dX8_letColoursRun_69 (by decide) ?_
              exact J73 μ x1 x2 x4 x3 (1 : Int32) H locs ls h hP hS (lv_sub hl [0, 1, 2, 4] rfl)
  have EN : ∀ (H : Heap) (locs : List Loc) (ls : Array Slot), fw_P E o d μ H → va_S (fw_A E) s.heap H locs → lv_has ls 5 [(0, .ref (fw_ad E j0 0)), (1, .int x1)] → W p l e (headSpec (fw_ws yX8_letColoursRun cX8_letColoursRun 5 (some .int)) ({ frames := 2, cells := 0, slots := 0, locals := 45 } : Room)).room s m args below meth c H locs 0 0 (MQ below (fw_Q E o d (some (.int r)) μ') args s 0 0 (fw_A E)) (F0 m 0 ls []) := by
    intro H locs ls hP hS hl
    unfold f_X8_letColoursRun at h
    refine lv_aload_n hx hb dX8_letColoursRun_0 rfl (lv_at hl 0 rfl) ?_
    refine va_get (D := fw_D E) (ci := 6) (v := .ref (fw_ad E j0 7)) (C := RX7) (T := TX7) (N := 10) hx hb hU inU7 hown hK (fw_at hP (fw_Vs (f := 0) (by decide) hj0)) 0 rfl rfl 7 (by decide) (hU (Cond.fieldLink RX8 49 "LaundryService$State" "halves" "[I") m_70) (fun _ h9 => h9) rfl dX8_letColoursRun_1 ?_
    refine lv_iload_n hx hb dX8_letColoursRun_4 rfl (lv_at hl 1 rfl) ?_
    obtain ⟨g1, h⟩ := fw_g_e h
    refine va_iald (D := fw_D E) hx hb hK (fw_at hP (fw_Vs (f := 7) (by decide) hj0)) 0 0 rfl rfl (fw_in_e g1) dX8_letColoursRun_5 ?_
    refine lv_bipush (v := (120 : Int32)) hx hb dX8_letColoursRun_6 (by decide) ?_
    refine lv_icmp_ge (tgt := 13) hx hb dX8_letColoursRun_8 (by decide) (fun c2 => ?_) (fun c2 => ?_)
    · rw [if_pos c2] at h
      refine lv_iconst (v := (1 : Int32)) hx hb dX8_letColoursRun_13 (by decide) ?_
      refine lv_aload_n hx hb dX8_letColoursRun_14 rfl (lv_at hl 0 rfl) ?_
      refine lv_iload_n hx hb dX8_letColoursRun_15 rfl (lv_at hl 1 rfl) ?_
      obtain ⟨r3, hc3, h⟩ := fw_b1_e h
      refine fw_ret (va_runV (As := [.int x1]) (rest := [.int (1 : Int32)]) ⟨hx, hb, hml, hown, hU⟩ (k_X7_greatestColourIn l hE hj0 x1 hc3) (cwV 1 hU (fw_gV m_251 m_252 m_253 m_2 m_254) rfl rfl rfl (by decide +kernel) ⟨(Nat.le_of_ble_eq_true rfl), (Nat.le_of_ble_eq_true rfl)⟩) ⟨fw_blind, fw_recv hK hP (fw_Vs (f := 0) (by decide) hj0) rfl rfl, fun U hU9 hW9 => ⟨rfl, fw_pre hK hP hSt hS U hU9 hW9⟩⟩ rfl rfl hl.1 rfl (lv_room (Nat.le_of_ble_eq_true rfl)) dX8_letColoursRun_16 ⟨Nat.zero_le _, Nat.zero_le _⟩) hS (fun H locs hP hS => ?_)
      refine lv_ishl hx hb dX8_letColoursRun_19 ?_
      refine lv_istore_n (lv' := [(2, .int ((1 : Int32) <<< (r3 &&& (31 : Int32)))), (0, .ref (fw_ad E j0 0)), (1, .int x1)]) hx hb dX8_letColoursRun_20 rfl hl (by decide) rfl (fun ls hl => ?_)
      refine lv_iconst (v := (0 : Int32)) hx hb dX8_letColoursRun_21 (by decide) ?_
      refine lv_istore_n (lv' := [(3, .int (0 : Int32)), (2, .int ((1 : Int32) <<< (r3 &&& (31 : Int32)))), (0, .ref (fw_ad E j0 0)), (1, .int x1)]) hx hb dX8_letColoursRun_22 rfl hl (by decide) rfl (fun ls hl => ?_)
      refine lv_iconst (v := (0 : Int32)) hx hb dX8_letColoursRun_23 (by decide) ?_
      refine lv_istore (lv' := [(4, .int (0 : Int32)), (3, .int (0 : Int32)), (2, .int ((1 : Int32) <<< (r3 &&& (31 : Int32)))), (0, .ref (fw_ad E j0 0)), (1, .int x1)]) hx hb dX8_letColoursRun_24 hl (by decide) rfl (fun ls hl => ?_)
      exact L26 1000 μ x1 ((1 : Int32) <<< (r3 &&& (31 : Int32))) (0 : Int32) (0 : Int32) H locs ls h hP hS (lv_sub hl [3, 4, 2, 1, 0] rfl)
    · rw [if_neg c2] at h
      refine lv_iconst (v := (0 : Int32)) hx hb dX8_letColoursRun_11 (by decide) ?_
      exact W.iret (v := (0 : Int32)) hx hb hr (fw_ew (mk := Value.int) h hP hS) hS.2.2 dX8_letColoursRun_12
  subst ha
  have hl := lv_entry ([.ref (fw_ad E j0 0), .int x1]) (n := 5) (Nat.le_of_ble_eq_true rfl)
  rw [lg_entry_eq]
  generalize (lg_sl ([.ref (fw_ad E j0 0), .int x1]) ++ List.replicate (5 - (lg_sl ([.ref (fw_ad E j0 0), .int x1])).length) Slot.unset).toArray = ls at hl ⊢
  exact EN s.heap [] ls hP va_S.rf hl
set_option maxHeartbeats 4000000 in
set_option maxRecDepth 100000 in
theorem k_X8_countWash (l : Launch) {E : fw_E} {o : Int64} {d : UInt64} (hE : fw_ok E) {μ μ' : fw_M} {j0 : Nat} (hj0 : j0 < 12) (x1 : Int32) {r : Unit} (h : f_X8_countWash μ j0 x1 = some (μ', r)) : Met l yX8_countWash (fw_ws yX8_countWash cX8_countWash 3 none) ({ frames := 1, cells := 0, slots := 0, locals := 22 } : Room) (va_Pc [.ref (fw_ad E j0 0), .int x1] (fw_Pre E o d μ)) (fw_Q E o d none μ') 0 0 (fw_A E) := by
  refine Met.ofW (cc := cX8_countWash) (maxL := 3) (ret := none) (by decide) rfl ?_
  intro p e s m args below meth c s₁ B hml hv
  obtain ⟨ha, hK, hP, hSt⟩ := hv
  have hx := B.exec
  have hb := B.bytes
  have hr := B.returns
  have hts := atoms_spec (ws := fw_ws yX8_countWash cX8_countWash 3 none) B.pre
  have hU : ∀ w ∈ fw_U, w.before args s = true := fun w hw => hts w (List.mem_cons_of_mem _ hw)
  have hown : s.vm.findClass RX8 = some m.cls := findClass_of_methodNamed B.named
  have hlocks := B.notSynchronized
  have L2 : ∀ (n : Nat) (μ : fw_M) (x1 : Int32) (x2 : Int32) (H : Heap) (locs : List Loc) (ls : Array Slot), f_X8_countWash_L2 j0 n μ x1 x2 = some (μ', r) → fw_P E o d μ H → va_S (fw_A E) s.heap H locs → lv_has ls 3 [(0, .ref (fw_ad E j0 0)), (1, .int x1), (2, .int x2)] → W p l e (headSpec (fw_ws yX8_countWash cX8_countWash 3 none) ({ frames := 1, cells := 0, slots := 0, locals := 22 } : Room)).room s m args below meth c H locs 0 0 (MQ below (fw_Q E o d none μ') args s 0 0 (fw_A E)) (F0 m 2 ls []) := by
    intro n2
    induction n2 with
    | zero => intro μ x1 x2 H locs ls h; rw [f_X8_countWash_L2] at h; cases h
    | succ n2 ih2 =>
      intro μ x1 x2 H locs ls h hP hS hl
      rw [f_X8_countWash_L2] at h
      refine lv_iload_n hx hb dX8_countWash_2 rfl (lv_at hl 2 rfl) ?_
      refine lv_aload_n hx hb dX8_countWash_3 rfl (lv_at hl 0 rfl) ?_
      refine va_get (D := fw_D E) (ci := 6) (v := .int (μ j0 0 6)) (C := RX7) (T := TX7) (N := 10) hx hb hU inU7 hown hK (fw_at hP (fw_Vs (f := 0) (by decide) hj0)) 0 rfl rfl 6 (by decide) (hU (Cond.fieldLink RX8 38 "LaundryService$State" "garmentCount" "I") m_67) (fun _ h9 => h9) rfl dX8_countWash_4 ?_
      refine lv_icmp_ge (tgt := 35) hx hb dX8_countWash_7 (by decide) (fun c1 => ?_) (fun c1 => ?_)
      · rw [if_pos c1] at h
        exact W.vret hx hb hr (fw_ev h hP hS) hS.2.2 dX8_countWash_35
      · rw [if_neg c1] at h
        refine lv_aload_n hx hb dX8_countWash_10 rfl (lv_at hl 0 rfl) ?_
        refine lv_iload_n hx hb dX8_countWash_11 rfl (lv_at hl 2 rfl) ?_
        refine lv_iload_n hx hb dX8_countWash_12 rfl (lv_at hl 1 rfl) ?_
        obtain ⟨r2, hc2, h⟩ := fw_b1_e h
        refine fw_ret (va_runV (As := [.int x2, .int x1]) (rest := []) ⟨hx, hb, hml, hown, hU⟩ (k_X7_isIn l hE hj0 x2 x1 hc2) (cwV 2 hU (fw_gV m_276 m_256 m_257 m_2 m_258) rfl rfl rfl (by decide +kernel) ⟨(Nat.le_of_ble_eq_true rfl), (Nat.le_of_ble_eq_true rfl)⟩) ⟨fw_blind, fw_recv hK hP (fw_Vs (f := 0) (by decide) hj0) rfl rfl, fun U hU9 hW9 => ⟨rfl, fw_pre hK hP hSt hS U hU9 hW9⟩⟩ rfl rfl hl.1 rfl (lv_room (Nat.le_of_ble_eq_true rfl)) dX8_countWash_13 ⟨Nat.zero_le _, Nat.zero_le _⟩) hS (fun H locs hP hS => ?_)
        refine lv_if_eq (tgt := 29) hx hb dX8_countWash_16 (by decide) (fun c3 => ?_) (fun c3 => ?_)
        · rw [if_pos c3] at h
          refine lv_iinc (v := (x2 + (1 : Int32))) (lv' := [(2, .int (x2 + (1 : Int32))), (0, .ref (fw_ad E j0 0)), (1, .int x1)]) hx hb dX8_countWash_29 hl (k := 2) rfl rfl (by decide) rfl (fun ls hl => ?_)
          refine lv_goto (tgt := 2) hx hb dX8_countWash_32 (by decide) ?_
          exact ih2 μ x1 (x2 + (1 : Int32)) H locs ls h hP hS (lv_sub hl [1, 2, 0] rfl)
        · rw [if_neg c3] at h
          refine lv_aload_n hx hb dX8_countWash_19 rfl (lv_at hl 0 rfl) ?_
          refine va_get (D := fw_D E) (ci := 6) (v := .ref (fw_ad E j0 6)) (C := RX7) (T := TX7) (N := 10) hx hb hU inU7 hown hK (fw_at hP (fw_Vs (f := 0) (by decide) hj0)) 0 rfl rfl 5 (by decide) (hU (Cond.fieldLink RX8 65 "LaundryService$State" "washes" "[I") m_63) (fun _ h9 => h9) rfl dX8_countWash_20 ?_
          refine lv_iload_n hx hb dX8_countWash_23 rfl (lv_at hl 2 rfl) ?_
          refine lv_dup2_11 hx hb dX8_countWash_24 rfl rfl ?_
          obtain ⟨g4, h⟩ := fw_g_e h
          refine va_iald (D := fw_D E) hx hb hK (fw_at hP (fw_Vs (f := 6) (by decide) hj0)) 0 0 rfl rfl (fw_in_e g4) dX8_countWash_25 ?_
          refine lv_iconst (v := (1 : Int32)) hx hb dX8_countWash_26 (by decide) ?_
          refine lv_iadd hx hb dX8_countWash_27 ?_
          refine fw_iast (n := 16) hx hb hK hP hE hS (fw_Vs (f := 6) (by decide) hj0) (fun _ => rfl) (fw_in_e g4) dX8_countWash_28 (fun H locs hP hS => ?_)
          obtain ⟨μ5, eμ5, h⟩ := fw_l_e h
          rw [← eμ5] at hP
          refine lv_iinc (v := (x2 + (1 : Int32))) (lv' := [(2, .int (x2 + (1 : Int32))), (0, .ref (fw_ad E j0 0)), (1, .int x1)]) hx hb dX8_countWash_29 hl (k := 2) rfl rfl (by decide) rfl (fun ls hl => ?_)
          refine lv_goto (tgt := 2) hx hb dX8_countWash_32 (by decide) ?_
          exact ih2 μ5 x1 (x2 + (1 : Int32)) H locs ls h hP hS (lv_sub hl [1, 2, 0] rfl)
  have EN : ∀ (H : Heap) (locs : List Loc) (ls : Array Slot), fw_P E o d μ H → va_S (fw_A E) s.heap H locs → lv_has ls 3 [(0, .ref (fw_ad E j0 0)), (1, .int x1)] → W p l e (headSpec (fw_ws yX8_countWash cX8_countWash 3 none) ({ frames := 1, cells := 0, slots := 0, locals := 22 } : Room)).room s m args below meth c H locs 0 0 (MQ below (fw_Q E o d none μ') args s 0 0 (fw_A E)) (F0 m 0 ls []) := by
    intro H locs ls hP hS hl
    unfold f_X8_countWash at h
    refine lv_iconst (v := (0 : Int32)) hx hb dX8_countWash_0 (by decide) ?_
    refine lv_istore_n (lv' := [(2, .int (0 : Int32)), (0, .ref (fw_ad E j0 0)), (1, .int x1)]) hx hb dX8_countWash_1 rfl hl (by decide) rfl (fun ls hl => ?_)
    exact L2 1000 μ x1 (0 : Int32) H locs ls h hP hS (lv_sub hl [1, 2, 0] rfl)
  subst ha
  have hl := lv_entry ([.ref (fw_ad E j0 0), .int x1]) (n := 3) (Nat.le_of_ble_eq_true rfl)
  rw [lg_entry_eq]
  generalize (lg_sl ([.ref (fw_ad E j0 0), .int x1]) ++ List.replicate (3 - (lg_sl ([.ref (fw_ad E j0 0), .int x1])).length) Slot.unset).toArray = ls at hl ⊢
  exact EN s.heap [] ls hP va_S.rf hl
set_option maxHeartbeats 4000000 in
set_option maxRecDepth 100000 in
theorem k_X8_isCleanSingleSock (l : Launch) {E : fw_E} {o : Int64} {d : UInt64} (hE : fw_ok E) {μ : fw_M} {j0 : Nat} (hj0 : j0 < 12) (x1 : Int32) {r : Int32} (h : f_X8_isCleanSingleSock μ j0 x1 = some r) : Met l yX8_isCleanSingleSock (fw_ws yX8_isCleanSingleSock cX8_isCleanSingleSock 3 (some .boolean)) ({ frames := 0, cells := 0, slots := 0, locals := 0 } : Room) (va_Pc [.ref (fw_ad E j0 0), .int x1] (fw_Pre E o d μ)) (fw_Q E o d (some (.int r)) μ) 0 0 (fw_A E) := by
  refine Met.ofW (cc := cX8_isCleanSingleSock) (maxL := 3) (ret := (some .boolean)) (by decide) rfl ?_
  intro p e s m args below meth c s₁ B hml hv
  obtain ⟨ha, hK, hP, hSt⟩ := hv
  have hx := B.exec
  have hb := B.bytes
  have hr := B.returns
  have hts := atoms_spec (ws := fw_ws yX8_isCleanSingleSock cX8_isCleanSingleSock 3 (some .boolean)) B.pre
  have hU : ∀ w ∈ fw_U, w.before args s = true := fun w hw => hts w (List.mem_cons_of_mem _ hw)
  have hown : s.vm.findClass RX8 = some m.cls := findClass_of_methodNamed B.named
  have hlocks := B.notSynchronized
  have L22 : ∀ (n : Nat) (x1 : Int32) (x2 : Int32) (H : Heap) (locs : List Loc) (ls : Array Slot), f_X8_isCleanSingleSock_L22 μ j0 n x1 x2 = some r → fw_P E o d μ H → va_S (fw_A E) s.heap H locs → lv_has ls 3 [(0, .ref (fw_ad E j0 0)), (1, .int x1), (2, .int x2)] → W p l e (headSpec (fw_ws yX8_isCleanSingleSock cX8_isCleanSingleSock 3 (some .boolean)) ({ frames := 0, cells := 0, slots := 0, locals := 0 } : Room)).room s m args below meth c H locs 0 0 (MQ below (fw_Q E o d (some (.int r)) μ) args s 0 0 (fw_A E)) (F0 m 22 ls []) := by
    intro n22
    induction n22 with
    | zero => intro x1 x2 H locs ls h; rw [f_X8_isCleanSingleSock_L22] at h; cases h
    | succ n22 ih22 =>
      intro x1 x2 H locs ls h hP hS hl
      rw [f_X8_isCleanSingleSock_L22] at h
      refine lv_iload_n hx hb dX8_isCleanSingleSock_22 rfl (lv_at hl 2 rfl) ?_
      refine lv_aload_n hx hb dX8_isCleanSingleSock_23 rfl (lv_at hl 0 rfl) ?_
      refine va_get (D := fw_D E) (ci := 6) (v := .int (μ j0 0 6)) (C := RX7) (T := TX7) (N := 10) hx hb hU inU7 hown hK (fw_at hP (fw_Vs (f := 0) (by decide) hj0)) 0 rfl rfl 6 (by decide) (hU (Cond.fieldLink RX8 38 "LaundryService$State" "garmentCount" "I") m_67) (fun _ h9 => h9) rfl dX8_isCleanSingleSock_24 ?_
      refine lv_icmp_ge (tgt := 82) hx hb dX8_isCleanSingleSock_27 (by decide) (fun c4 => ?_) (fun c4 => ?_)
      · rw [if_pos c4] at h
        refine lv_iconst (v := (1 : Int32)) hx hb dX8_isCleanSingleSock_82 (by decide) ?_
        exact W.zret (v := (1 : Int32)) hx hb hr rfl (fw_er (mk := Value.int) h hP hS) hS.2.2 dX8_isCleanSingleSock_83
      · rw [if_neg c4] at h
        refine lv_iload_n hx hb dX8_isCleanSingleSock_30 rfl (lv_at hl 2 rfl) ?_
        refine lv_iload_n hx hb dX8_isCleanSingleSock_31 rfl (lv_at hl 1 rfl) ?_
        refine lv_icmp_eq (tgt := 76) hx hb dX8_isCleanSingleSock_32 (by decide) (fun c5 => ?_) (fun c5 => ?_)
        · rw [if_pos c5] at h
          refine lv_iinc (v := (x2 + (1 : Int32))) (lv' := [(2, .int (x2 + (1 : Int32))), (0, .ref (fw_ad E j0 0)), (1, .int x1)]) hx hb dX8_isCleanSingleSock_76 hl (k := 2) rfl rfl (by decide) rfl (fun ls hl => ?_)
          refine lv_goto (tgt := 22) hx hb dX8_isCleanSingleSock_79 (by decide) ?_
          exact ih22 x1 (x2 + (1 : Int32)) H locs ls h hP hS (lv_sub hl [1, 2, 0] rfl)
        · rw [if_neg c5] at h
          refine lv_aload_n hx hb dX8_isCleanSingleSock_35 rfl (lv_at hl 0 rfl) ?_
          refine va_get (D := fw_D E) (ci := 6) (v := .ref (fw_ad E j0 2)) (C := RX7) (T := TX7) (N := 10) hx hb hU inU7 hown hK (fw_at hP (fw_Vs (f := 0) (by decide) hj0)) 0 rfl rfl 1 (by decide) (hU (Cond.fieldLink RX8 78 "LaundryService$State" "socks" "[Z") m_50) (fun _ h9 => h9) rfl dX8_isCleanSingleSock_36 ?_
          refine lv_iload_n hx hb dX8_isCleanSingleSock_39 rfl (lv_at hl 2 rfl) ?_
          obtain ⟨g6, h⟩ := fw_g_e h
          refine va_zald (D := fw_D E) hx hb hK (fw_at hP (fw_Vs (f := 2) (by decide) hj0)) 0 1 rfl rfl (fw_in_e g6) dX8_isCleanSingleSock_40 ?_
          refine lv_if_eq (tgt := 76) hx hb dX8_isCleanSingleSock_41 (by decide) (fun c7 => ?_) (fun c7 => ?_)
          · rw [if_pos c7] at h
            refine lv_iinc (v := (x2 + (1 : Int32))) (lv' := [(2, .int (x2 + (1 : Int32))), (0, .ref (fw_ad E j0 0)), (1, .int x1)]) hx hb dX8_isCleanSingleSock_76 hl (k := 2) rfl rfl (by decide) rfl (fun ls hl => ?_)
            refine lv_goto (tgt := 22) hx hb dX8_isCleanSingleSock_79 (by decide) ?_
            exact ih22 x1 (x2 + (1 : Int32)) H locs ls h hP hS (lv_sub hl [1, 2, 0] rfl)
          · rw [if_neg c7] at h
            refine lv_aload_n hx hb dX8_isCleanSingleSock_44 rfl (lv_at hl 0 rfl) ?_
            refine va_get (D := fw_D E) (ci := 6) (v := .ref (fw_ad E j0 5)) (C := RX7) (T := TX7) (N := 10) hx hb hU inU7 hown hK (fw_at hP (fw_Vs (f := 0) (by decide) hj0)) 0 rfl rfl 4 (by decide) (hU (Cond.fieldLink RX8 75 "LaundryService$State" "places" "[I") m_60) (fun _ h9 => h9) rfl dX8_isCleanSingleSock_45 ?_
            refine lv_iload_n hx hb dX8_isCleanSingleSock_48 rfl (lv_at hl 2 rfl) ?_
            refine va_iald (D := fw_D E) hx hb hK (fw_at hP (fw_Vs (f := 5) (by decide) hj0)) 0 0 rfl rfl (fw_in_e g6) dX8_isCleanSingleSock_49 ?_
            refine lv_aload_n hx hb dX8_isCleanSingleSock_50 rfl (lv_at hl 0 rfl) ?_
            refine va_get (D := fw_D E) (ci := 6) (v := .ref (fw_ad E j0 5)) (C := RX7) (T := TX7) (N := 10) hx hb hU inU7 hown hK (fw_at hP (fw_Vs (f := 0) (by decide) hj0)) 0 rfl rfl 4 (by decide) (hU (Cond.fieldLink RX8 75 "LaundryService$State" "places" "[I") m_60) (fun _ h9 => h9) rfl dX8_isCleanSingleSock_51 ?_
            refine lv_iload_n hx hb dX8_isCleanSingleSock_54 rfl (lv_at hl 1 rfl) ?_
            obtain ⟨g8, h⟩ := fw_g_e h
            refine va_iald (D := fw_D E) hx hb hK (fw_at hP (fw_Vs (f := 5) (by decide) hj0)) 0 0 rfl rfl (fw_in_e g8) dX8_isCleanSingleSock_55 ?_
            refine lv_icmp_ne (tgt := 76) hx hb dX8_isCleanSingleSock_56 (by decide) (fun c9 => ?_) (fun c9 => ?_)
            · rw [if_neg c9] at h
              refine lv_iinc (v := (x2 + (1 : Int32))) (lv' := [(2, .int (x2 + (1 : Int32))), (0, .ref (fw_ad E j0 0)), (1, .int x1)]) hx hb dX8_isCleanSingleSock_76 hl (k := 2) rfl rfl (by decide) rfl (fun ls hl => ?_)
              refine lv_goto (tgt := 22) hx hb dX8_isCleanSingleSock_79 (by decide) ?_
              exact ih22 x1 (x2 + (1 : Int32)) H locs ls h hP hS (lv_sub hl [1, 2, 0] rfl)
            · rw [if_pos c9] at h
              refine lv_aload_n hx hb dX8_isCleanSingleSock_59 rfl (lv_at hl 0 rfl) ?_
              refine va_get (D := fw_D E) (ci := 6) (v := .ref (fw_ad E j0 3)) (C := RX7) (T := TX7) (N := 10) hx hb hU inU7 hown hK (fw_at hP (fw_Vs (f := 0) (by decide) hj0)) 0 rfl rfl 2 (by decide) (hU (Cond.fieldLink RX8 62 "LaundryService$State" "colours" "[I") m_54) (fun _ h9 => h9) rfl dX8_isCleanSingleSock_60 ?_
              refine lv_iload_n hx hb dX8_isCleanSingleSock_63 rfl (lv_at hl 2 rfl) ?_
              refine va_iald (D := fw_D E) hx hb hK (fw_at hP (fw_Vs (f := 3) (by decide) hj0)) 0 0 rfl rfl (fw_in_e g6) dX8_isCleanSingleSock_64 ?_
              refine lv_aload_n hx hb dX8_isCleanSingleSock_65 rfl (lv_at hl 0 rfl) ?_
              refine va_get (D := fw_D E) (ci := 6) (v := .ref (fw_ad E j0 3)) (C := RX7) (T := TX7) (N := 10) hx hb hU inU7 hown hK (fw_at hP (fw_Vs (f := 0) (by decide) hj0)) 0 rfl rfl 2 (by decide) (hU (Cond.fieldLink RX8 62 "LaundryService$State" "colours" "[I") m_54) (fun _ h9 => h9) rfl dX8_isCleanSingleSock_66 ?_
              refine lv_iload_n hx hb dX8_isCleanSingleSock_69 rfl (lv_at hl 1 rfl) ?_
              refine va_iald (D := fw_D E) hx hb hK (fw_at hP (fw_Vs (f := 3) (by decide) hj0)) 0 0 rfl rfl (fw_in_e g8) dX8_isCleanSingleSock_70 ?_
              refine lv_icmp_ne (tgt := 76) hx hb dX8_isCleanSingleSock_71 (by decide) (fun c10 => ?_) (fun c10 => ?_)
              · rw [if_neg c10] at h
                refine lv_iinc (v := (x2 + (1 : Int32))) (lv' := [(2, .int (x2 + (1 : Int32))), (0, .ref (fw_ad E j0 0)), (1, .int x1)]) hx hb dX8_isCleanSingleSock_76 hl (k := 2) rfl rfl (by decide) rfl (fun ls hl => ?_)
                refine lv_goto (tgt := 22) hx hb dX8_isCleanSingleSock_79 (by decide) ?_
                exact ih22 x1 (x2 + (1 : Int32)) H locs ls h hP hS (lv_sub hl [1, 2, 0] rfl)
              · rw [if_pos c10] at h
                refine lv_iconst (v := (0 : Int32)) hx hb dX8_isCleanSingleSock_74 (by decide) ?_
                exact W.zret (v := (0 : Int32)) hx hb hr rfl (fw_er (mk := Value.int) h hP hS) hS.2.2 dX8_isCleanSingleSock_75
  have EN : ∀ (H : Heap) (locs : List Loc) (ls : Array Slot), fw_P E o d μ H → va_S (fw_A E) s.heap H locs → lv_has ls 3 [(0, .ref (fw_ad E j0 0)), (1, .int x1)] → W p l e (headSpec (fw_ws yX8_isCleanSingleSock cX8_isCleanSingleSock 3 (some .boolean)) ({ frames := 0, cells := 0, slots := 0, locals := 0 } : Room)).room s m args below meth c H locs 0 0 (MQ below (fw_Q E o d (some (.int r)) μ) args s 0 0 (fw_A E)) (F0 m 0 ls []) := by
    intro H locs ls hP hS hl
    unfold f_X8_isCleanSingleSock at h
    refine lv_aload_n hx hb dX8_isCleanSingleSock_0 rfl (lv_at hl 0 rfl) ?_
    refine va_get (D := fw_D E) (ci := 6) (v := .ref (fw_ad E j0 2)) (C := RX7) (T := TX7) (N := 10) hx hb hU inU7 hown hK (fw_at hP (fw_Vs (f := 0) (by decide) hj0)) 0 rfl rfl 1 (by decide) (hU (Cond.fieldLink RX8 78 "LaundryService$State" "socks" "[Z") m_50) (fun _ h9 => h9) rfl dX8_isCleanSingleSock_1 ?_
    refine lv_iload_n hx hb dX8_isCleanSingleSock_4 rfl (lv_at hl 1 rfl) ?_
    obtain ⟨g1, h⟩ := fw_g_e h
    refine va_zald (D := fw_D E) hx hb hK (fw_at hP (fw_Vs (f := 2) (by decide) hj0)) 0 1 rfl rfl (fw_in_e g1) dX8_isCleanSingleSock_5 ?_
    refine lv_if_eq (tgt := 18) hx hb dX8_isCleanSingleSock_6 (by decide) (fun c2 => ?_) (fun c2 => ?_)
    · rw [if_pos c2] at h
      refine lv_iconst (v := (0 : Int32)) hx hb dX8_isCleanSingleSock_18 (by decide) ?_
      exact W.zret (v := (0 : Int32)) hx hb hr rfl (fw_er (mk := Value.int) h hP hS) hS.2.2 dX8_isCleanSingleSock_19
    · rw [if_neg c2] at h
      refine lv_aload_n hx hb dX8_isCleanSingleSock_9 rfl (lv_at hl 0 rfl) ?_
      refine va_get (D := fw_D E) (ci := 6) (v := .ref (fw_ad E j0 4)) (C := RX7) (T := TX7) (N := 10) hx hb hU inU7 hown hK (fw_at hP (fw_Vs (f := 0) (by decide) hj0)) 0 rfl rfl 3 (by decide) (hU (Cond.fieldLink RX8 56 "LaundryService$State" "stains" "[I") m_57) (fun _ h9 => h9) rfl dX8_isCleanSingleSock_10 ?_
      refine lv_iload_n hx hb dX8_isCleanSingleSock_13 rfl (lv_at hl 1 rfl) ?_
      refine va_iald (D := fw_D E) hx hb hK (fw_at hP (fw_Vs (f := 4) (by decide) hj0)) 0 0 rfl rfl (fw_in_e g1) dX8_isCleanSingleSock_14 ?_
      refine lv_if_eq (tgt := 20) hx hb dX8_isCleanSingleSock_15 (by decide) (fun c3 => ?_) (fun c3 => ?_)
      · rw [if_pos c3] at h
        refine lv_iconst (v := (0 : Int32)) hx hb dX8_isCleanSingleSock_20 (by decide) ?_
        refine lv_istore_n (lv' := [(2, .int (0 : Int32)), (0, .ref (fw_ad E j0 0)), (1, .int x1)]) hx hb dX8_isCleanSingleSock_21 rfl hl (by decide) rfl (fun ls hl => ?_)
        exact L22 1000 x1 (0 : Int32) H locs ls h hP hS (lv_sub hl [1, 2, 0] rfl)
      · rw [if_neg c3] at h
        refine lv_iconst (v := (0 : Int32)) hx hb dX8_isCleanSingleSock_18 (by decide) ?_
        exact W.zret (v := (0 : Int32)) hx hb hr rfl (fw_er (mk := Value.int) h hP hS) hS.2.2 dX8_isCleanSingleSock_19
  subst ha
  have hl := lv_entry ([.ref (fw_ad E j0 0), .int x1]) (n := 3) (Nat.le_of_ble_eq_true rfl)
  rw [lg_entry_eq]
  generalize (lg_sl ([.ref (fw_ad E j0 0), .int x1]) ++ List.replicate (3 - (lg_sl ([.ref (fw_ad E j0 0), .int x1])).length) Slot.unset).toArray = ls at hl ⊢
  exact EN s.heap [] ls hP va_S.rf hl
set_option maxHeartbeats 4000000 in
set_option maxRecDepth 100000 in
theorem k_X8_loseSocks (l : Launch) {E : fw_E} {o : Int64} {d : UInt64} (hE : fw_ok E) {μ μ' : fw_M} {j0 : Nat} (hj0 : j0 < 12) (x1 : Int32) {r : Int32} (h : f_X8_loseSocks μ j0 x1 = some (μ', r)) : Met l yX8_loseSocks (fw_ws yX8_loseSocks cX8_loseSocks 5 (some .int)) ({ frames := 2, cells := 0, slots := 0, locals := 44 } : Room) (va_Pc [.ref (fw_ad E j0 0), .int x1] (fw_Pre E o d μ)) (fw_Q E o d (some (.int r)) μ') 0 0 (fw_A E) := by
  refine Met.ofW (cc := cX8_loseSocks) (maxL := 5) (ret := (some .int)) (by decide) rfl ?_
  intro p e s m args below meth c s₁ B hml hv
  obtain ⟨ha, hK, hP, hSt⟩ := hv
  have hx := B.exec
  have hb := B.bytes
  have hr := B.returns
  have hts := atoms_spec (ws := fw_ws yX8_loseSocks cX8_loseSocks 5 (some .int)) B.pre
  have hU : ∀ w ∈ fw_U, w.before args s = true := fun w hw => hts w (List.mem_cons_of_mem _ hw)
  have hown : s.vm.findClass RX8 = some m.cls := findClass_of_methodNamed B.named
  have hlocks := B.notSynchronized
  have L22 : ∀ (n : Nat) (μ : fw_M) (x1 : Int32) (x2 : Int32) (x3 : Int32) (x4 : Int32) (H : Heap) (locs : List Loc) (ls : Array Slot), f_X8_loseSocks_L22 j0 n μ x1 x2 x3 x4 = some (μ', r) → fw_P E o d μ H → va_S (fw_A E) s.heap H locs → lv_has ls 5 [(0, .ref (fw_ad E j0 0)), (1, .int x1), (2, .int x2), (3, .int x3), (4, .int x4)] → W p l e (headSpec (fw_ws yX8_loseSocks cX8_loseSocks 5 (some .int)) ({ frames := 2, cells := 0, slots := 0, locals := 44 } : Room)).room s m args below meth c H locs 0 0 (MQ below (fw_Q E o d (some (.int r)) μ') args s 0 0 (fw_A E)) (F0 m 22 ls []) := by
    intro n22
    induction n22 with
    | zero => intro μ x1 x2 x3 x4 H locs ls h; rw [f_X8_loseSocks_L22] at h; cases h
    | succ n22 ih22 =>
      intro μ x1 x2 x3 x4 H locs ls h hP hS hl
      rw [f_X8_loseSocks_L22] at h
      refine lv_iload hx hb dX8_loseSocks_22 (lv_at hl 4 rfl) ?_
      refine lv_aload_n hx hb dX8_loseSocks_24 rfl (lv_at hl 0 rfl) ?_
      refine va_get (D := fw_D E) (ci := 6) (v := .int (μ j0 0 6)) (C := RX7) (T := TX7) (N := 10) hx hb hU inU7 hown hK (fw_at hP (fw_Vs (f := 0) (by decide) hj0)) 0 rfl rfl 6 (by decide) (hU (Cond.fieldLink RX8 38 "LaundryService$State" "garmentCount" "I") m_67) (fun _ h9 => h9) rfl dX8_loseSocks_25 ?_
      refine lv_icmp_ge (tgt := 71) hx hb dX8_loseSocks_28 (by decide) (fun c3 => ?_) (fun c3 => ?_)
      · rw [if_pos c3] at h
        refine lv_iload_n hx hb dX8_loseSocks_71 rfl (lv_at hl 3 rfl) ?_
        exact W.iret (v := x3) hx hb hr (fw_ew (mk := Value.int) h hP hS) hS.2.2 dX8_loseSocks_72
      · rw [if_neg c3] at h
        refine lv_iload_n hx hb dX8_loseSocks_31 rfl (lv_at hl 2 rfl) ?_
        refine lv_if_eq (tgt := 65) hx hb dX8_loseSocks_32 (by decide) (fun c4 => ?_) (fun c4 => ?_)
        · rw [if_pos c4] at h
          refine lv_iinc (v := (x4 + (1 : Int32))) (lv' := [(4, .int (x4 + (1 : Int32))), (0, .ref (fw_ad E j0 0)), (1, .int x1), (2, .int x2), (3, .int x3)]) hx hb dX8_loseSocks_65 hl (k := 4) rfl rfl (by decide) rfl (fun ls hl => ?_)
          refine lv_goto (tgt := 22) hx hb dX8_loseSocks_68 (by decide) ?_
          exact ih22 μ x1 x2 x3 (x4 + (1 : Int32)) H locs ls h hP hS (lv_sub hl [1, 2, 3, 4, 0] rfl)
        · rw [if_neg c4] at h
          refine lv_aload_n hx hb dX8_loseSocks_35 rfl (lv_at hl 0 rfl) ?_
          refine lv_iload hx hb dX8_loseSocks_36 (lv_at hl 4 rfl) ?_
          refine lv_iload_n hx hb dX8_loseSocks_38 rfl (lv_at hl 1 rfl) ?_
          obtain ⟨r5, hc5, h⟩ := fw_b1_e h
          refine fw_ret (va_runV (As := [.int x4, .int x1]) (rest := []) ⟨hx, hb, hml, hown, hU⟩ (k_X7_isIn l hE hj0 x4 x1 hc5) (cwV 2 hU (fw_gV m_276 m_256 m_257 m_2 m_258) rfl rfl rfl (by decide +kernel) ⟨(Nat.le_of_ble_eq_true rfl), (Nat.le_of_ble_eq_true rfl)⟩) ⟨fw_blind, fw_recv hK hP (fw_Vs (f := 0) (by decide) hj0) rfl rfl, fun U hU9 hW9 => ⟨rfl, fw_pre hK hP hSt hS U hU9 hW9⟩⟩ rfl rfl hl.1 rfl (lv_room (Nat.le_of_ble_eq_true rfl)) dX8_loseSocks_39 ⟨Nat.zero_le _, Nat.zero_le _⟩) hS (fun H locs hP hS => ?_)
          refine lv_if_eq (tgt := 65) hx hb dX8_loseSocks_42 (by decide) (fun c6 => ?_) (fun c6 => ?_)
          · rw [if_pos c6] at h
            refine lv_iinc (v := (x4 + (1 : Int32))) (lv' := [(4, .int (x4 + (1 : Int32))), (0, .ref (fw_ad E j0 0)), (1, .int x1), (2, .int x2), (3, .int x3)]) hx hb dX8_loseSocks_65 hl (k := 4) rfl rfl (by decide) rfl (fun ls hl => ?_)
            refine lv_goto (tgt := 22) hx hb dX8_loseSocks_68 (by decide) ?_
            exact ih22 μ x1 x2 x3 (x4 + (1 : Int32)) H locs ls h hP hS (lv_sub hl [1, 2, 3, 4, 0] rfl)
          · rw [if_neg c6] at h
            refine lv_aload_n hx hb dX8_loseSocks_45 rfl (lv_at hl 0 rfl) ?_
            refine lv_iload hx hb dX8_loseSocks_46 (lv_at hl 4 rfl) ?_
            obtain ⟨r7, hc7, h⟩ := fw_b1_e h
            refine fw_ret (va_runS (As := [.ref (fw_ad E j0 0), .int x4]) (rest := []) ⟨hx, hb, hml, hown, hU⟩ (k_X8_isCleanSingleSock l hE hj0 x4 hc7) (va_cwS 2 hU (fw_gS m_302 m_303 m_23 m_304) rfl rfl rfl (by decide +kernel) ⟨(Nat.le_of_ble_eq_true rfl), (Nat.le_of_ble_eq_true rfl)⟩) ⟨fw_blind, fun U hU9 hW9 => ⟨rfl, fw_pre hK hP hSt hS U hU9 hW9⟩⟩ rfl rfl hl.1 rfl (lv_room (Nat.le_of_ble_eq_true rfl)) dX8_loseSocks_48 ⟨Nat.zero_le _, Nat.zero_le _⟩) hS (fun H locs hP hS => ?_)
            refine lv_if_eq (tgt := 65) hx hb dX8_loseSocks_51 (by decide) (fun c8 => ?_) (fun c8 => ?_)
            · rw [if_pos c8] at h
              refine lv_iinc (v := (x4 + (1 : Int32))) (lv' := [(4, .int (x4 + (1 : Int32))), (0, .ref (fw_ad E j0 0)), (1, .int x1), (2, .int x2), (3, .int x3)]) hx hb dX8_loseSocks_65 hl (k := 4) rfl rfl (by decide) rfl (fun ls hl => ?_)
              refine lv_goto (tgt := 22) hx hb dX8_loseSocks_68 (by decide) ?_
              exact ih22 μ x1 x2 x3 (x4 + (1 : Int32)) H locs ls h hP hS (lv_sub hl [1, 2, 3, 4, 0] rfl)
            · rw [if_neg c8] at h
              refine lv_aload_n hx hb dX8_loseSocks_54 rfl (lv_at hl 0 rfl) ?_
              refine va_get (D := fw_D E) (ci := 6) (v := .ref (fw_ad E j0 5)) (C := RX7) (T := TX7) (N := 10) hx hb hU inU7 hown hK (fw_at hP (fw_Vs (f := 0) (by decide) hj0)) 0 rfl rfl 4 (by decide) (hU (Cond.fieldLink RX8 75 "LaundryService$State" "places" "[I") m_60) (fun _ h9 => h9) rfl dX8_loseSocks_55 ?_
              refine lv_iload hx hb dX8_loseSocks_58 (lv_at hl 4 rfl) ?_
              refine lv_iconst (v := (3 : Int32)) hx hb dX8_loseSocks_60 (by decide) ?_
              obtain ⟨g9, h⟩ := fw_g_e h
              refine fw_iast (n := 16) hx hb hK hP hE hS (fw_Vs (f := 5) (by decide) hj0) (fun _ => rfl) (fw_in_e g9) dX8_loseSocks_61 (fun H locs hP hS => ?_)
              obtain ⟨μ10, eμ10, h⟩ := fw_l_e h
              rw [← eμ10] at hP
              refine lv_iinc (v := (x3 + (1 : Int32))) (lv' := [(3, .int (x3 + (1 : Int32))), (0, .ref (fw_ad E j0 0)), (1, .int x1), (2, .int x2), (4, .int x4)]) hx hb dX8_loseSocks_62 hl (k := 3) rfl rfl (by decide) rfl (fun ls hl => ?_)
              refine lv_iinc (v := (x4 + (1 : Int32))) (lv' := [(4, .int (x4 + (1 : Int32))), (3, .int (x3 + (1 : Int32))), (0, .ref (fw_ad E j0 0)), (1, .int x1), (2, .int x2)]) hx hb dX8_loseSocks_65 hl (k := 4) rfl rfl (by decide) rfl (fun ls hl => ?_)
              refine lv_goto (tgt := 22) hx hb dX8_loseSocks_68 (by decide) ?_
              exact ih22 μ10 x1 x2 (x3 + (1 : Int32)) (x4 + (1 : Int32)) H locs ls h hP hS (lv_sub hl [2, 3, 4, 1, 0] rfl)
  have EN : ∀ (H : Heap) (locs : List Loc) (ls : Array Slot), fw_P E o d μ H → va_S (fw_A E) s.heap H locs → lv_has ls 5 [(0, .ref (fw_ad E j0 0)), (1, .int x1)] → W p l e (headSpec (fw_ws yX8_loseSocks cX8_loseSocks 5 (some .int)) ({ frames := 2, cells := 0, slots := 0, locals := 44 } : Room)).room s m args below meth c H locs 0 0 (MQ below (fw_Q E o d (some (.int r)) μ') args s 0 0 (fw_A E)) (F0 m 0 ls []) := by
    intro H locs ls hP hS hl
    unfold f_X8_loseSocks at h
    refine lv_aload_n hx hb dX8_loseSocks_0 rfl (lv_at hl 0 rfl) ?_
    refine lv_iload_n hx hb dX8_loseSocks_1 rfl (lv_at hl 1 rfl) ?_
    obtain ⟨r1, hc1, h⟩ := fw_b1_e h
    refine fw_ret (va_runV (As := [.int x1]) (rest := []) ⟨hx, hb, hml, hown, hU⟩ (k_X7_countIn l hE hj0 x1 hc1) (cwV 1 hU (fw_gV m_262 m_263 m_264 m_2 m_265) rfl rfl rfl (by decide +kernel) ⟨(Nat.le_of_ble_eq_true rfl), (Nat.le_of_ble_eq_true rfl)⟩) ⟨fw_blind, fw_recv hK hP (fw_Vs (f := 0) (by decide) hj0) rfl rfl, fun U hU9 hW9 => ⟨rfl, fw_pre hK hP hSt hS U hU9 hW9⟩⟩ rfl rfl hl.1 rfl (lv_room (Nat.le_of_ble_eq_true rfl)) dX8_loseSocks_2 ⟨Nat.zero_le _, Nat.zero_le _⟩) hS (fun H locs hP hS => ?_)
    refine lv_iconst (v := (2 : Int32)) hx hb dX8_loseSocks_5 (by decide) ?_
    refine lv_irem hx hb dX8_loseSocks_6 (by decide) ?_
    refine lv_iconst (v := (1 : Int32)) hx hb dX8_loseSocks_7 (by decide) ?_
    refine lv_icmp_ne (tgt := 15) hx hb dX8_loseSocks_8 (by decide) (fun c2 => ?_) (fun c2 => ?_)
    · rw [if_neg c2] at h
      refine lv_iconst (v := (0 : Int32)) hx hb dX8_loseSocks_15 (by decide) ?_
      refine lv_istore_n (lv' := [(2, .int (0 : Int32)), (0, .ref (fw_ad E j0 0)), (1, .int x1)]) hx hb dX8_loseSocks_16 rfl hl (by decide) rfl (fun ls hl => ?_)
      refine lv_iconst (v := (0 : Int32)) hx hb dX8_loseSocks_17 (by decide) ?_
      refine lv_istore_n (lv' := [(3, .int (0 : Int32)), (2, .int (0 : Int32)), (0, .ref (fw_ad E j0 0)), (1, .int x1)]) hx hb dX8_loseSocks_18 rfl hl (by decide) rfl (fun ls hl => ?_)
      refine lv_iconst (v := (0 : Int32)) hx hb dX8_loseSocks_19 (by decide) ?_
      refine lv_istore (lv' := [(4, .int (0 : Int32)), (3, .int (0 : Int32)), (2, .int (0 : Int32)), (0, .ref (fw_ad E j0 0)), (1, .int x1)]) hx hb dX8_loseSocks_20 hl (by decide) rfl (fun ls hl => ?_)
      exact L22 1000 μ x1 (0 : Int32) (0 : Int32) (0 : Int32) H locs ls h hP hS (lv_sub hl [3, 4, 2, 1, 0] rfl)
    · rw [if_pos c2] at h
      refine lv_iconst (v := (1 : Int32)) hx hb dX8_loseSocks_11 (by decide) ?_
      refine lv_goto (tgt := 16) hx hb dX8_loseSocks_12 (by decide) ?_
      refine lv_istore_n (lv' := [(2, .int (1 : Int32)), (0, .ref (fw_ad E j0 0)), (1, .int x1)]) hx hb dX8_loseSocks_16 rfl hl (by decide) rfl (fun ls hl => ?_)
      refine lv_iconst (v := (0 : Int32)) hx hb dX8_loseSocks_17 (by decide) ?_
      refine lv_istore_n (lv' := [(3, .int (0 : Int32)), (2, .int (1 : Int32)), (0, .ref (fw_ad E j0 0)), (1, .int x1)]) hx hb dX8_loseSocks_18 rfl hl (by decide) rfl (fun ls hl => ?_)
      refine lv_iconst (v := (0 : Int32)) hx hb dX8_loseSocks_19 (by decide) ?_
      refine lv_istore (lv' := [(4, .int (0 : Int32)), (3, .int (0 : Int32)), (2, .int (1 : Int32)), (0, .ref (fw_ad E j0 0)), (1, .int x1)]) hx hb dX8_loseSocks_20 hl (by decide) rfl (fun ls hl => ?_)
      exact L22 1000 μ x1 (1 : Int32) (0 : Int32) (0 : Int32) H locs ls h hP hS (lv_sub hl [3, 4, 2, 1, 0] rfl)
  subst ha
  have hl := lv_entry ([.ref (fw_ad E j0 0), .int x1]) (n := 5) (Nat.le_of_ble_eq_true rfl)
  rw [lg_entry_eq]
  generalize (lg_sl ([.ref (fw_ad E j0 0), .int x1]) ++ List.replicate (5 - (lg_sl ([.ref (fw_ad E j0 0), .int x1])).length) Slot.unset).toArray = ls at hl ⊢
  exact EN s.heap [] ls hP va_S.rf hl
set_option maxHeartbeats 4000000 in
set_option maxRecDepth 100000 in
theorem k_X8_returnToBags (l : Launch) {E : fw_E} {o : Int64} {d : UInt64} (hE : fw_ok E) {μ μ' : fw_M} {j0 : Nat} (hj0 : j0 < 12) (x1 : Int32) {r : Unit} (h : f_X8_returnToBags μ j0 x1 = some (μ', r)) : Met l yX8_returnToBags (fw_ws yX8_returnToBags cX8_returnToBags 3 none) ({ frames := 1, cells := 0, slots := 0, locals := 22 } : Room) (va_Pc [.ref (fw_ad E j0 0), .int x1] (fw_Pre E o d μ)) (fw_Q E o d none μ') 0 0 (fw_A E) := by
  refine Met.ofW (cc := cX8_returnToBags) (maxL := 3) (ret := none) (by decide) rfl ?_
  intro p e s m args below meth c s₁ B hml hv
  obtain ⟨ha, hK, hP, hSt⟩ := hv
  have hx := B.exec
  have hb := B.bytes
  have hr := B.returns
  have hts := atoms_spec (ws := fw_ws yX8_returnToBags cX8_returnToBags 3 none) B.pre
  have hU : ∀ w ∈ fw_U, w.before args s = true := fun w hw => hts w (List.mem_cons_of_mem _ hw)
  have hown : s.vm.findClass RX8 = some m.cls := findClass_of_methodNamed B.named
  have hlocks := B.notSynchronized
  have L2 : ∀ (n : Nat) (μ : fw_M) (x1 : Int32) (x2 : Int32) (H : Heap) (locs : List Loc) (ls : Array Slot), f_X8_returnToBags_L2 j0 n μ x1 x2 = some (μ', r) → fw_P E o d μ H → va_S (fw_A E) s.heap H locs → lv_has ls 3 [(0, .ref (fw_ad E j0 0)), (1, .int x1), (2, .int x2)] → W p l e (headSpec (fw_ws yX8_returnToBags cX8_returnToBags 3 none) ({ frames := 1, cells := 0, slots := 0, locals := 22 } : Room)).room s m args below meth c H locs 0 0 (MQ below (fw_Q E o d none μ') args s 0 0 (fw_A E)) (F0 m 2 ls []) := by
    intro n2
    induction n2 with
    | zero => intro μ x1 x2 H locs ls h; rw [f_X8_returnToBags_L2] at h; cases h
    | succ n2 ih2 =>
      intro μ x1 x2 H locs ls h hP hS hl
      rw [f_X8_returnToBags_L2] at h
      refine lv_iload_n hx hb dX8_returnToBags_2 rfl (lv_at hl 2 rfl) ?_
      refine lv_aload_n hx hb dX8_returnToBags_3 rfl (lv_at hl 0 rfl) ?_
      refine va_get (D := fw_D E) (ci := 6) (v := .int (μ j0 0 6)) (C := RX7) (T := TX7) (N := 10) hx hb hU inU7 hown hK (fw_at hP (fw_Vs (f := 0) (by decide) hj0)) 0 rfl rfl 6 (by decide) (hU (Cond.fieldLink RX8 38 "LaundryService$State" "garmentCount" "I") m_67) (fun _ h9 => h9) rfl dX8_returnToBags_4 ?_
      refine lv_icmp_ge (tgt := 32) hx hb dX8_returnToBags_7 (by decide) (fun c1 => ?_) (fun c1 => ?_)
      · rw [if_pos c1] at h
        exact W.vret hx hb hr (fw_ev h hP hS) hS.2.2 dX8_returnToBags_32
      · rw [if_neg c1] at h
        refine lv_aload_n hx hb dX8_returnToBags_10 rfl (lv_at hl 0 rfl) ?_
        refine lv_iload_n hx hb dX8_returnToBags_11 rfl (lv_at hl 2 rfl) ?_
        refine lv_iload_n hx hb dX8_returnToBags_12 rfl (lv_at hl 1 rfl) ?_
        obtain ⟨r2, hc2, h⟩ := fw_b1_e h
        refine fw_ret (va_runV (As := [.int x2, .int x1]) (rest := []) ⟨hx, hb, hml, hown, hU⟩ (k_X7_isIn l hE hj0 x2 x1 hc2) (cwV 2 hU (fw_gV m_276 m_256 m_257 m_2 m_258) rfl rfl rfl (by decide +kernel) ⟨(Nat.le_of_ble_eq_true rfl), (Nat.le_of_ble_eq_true rfl)⟩) ⟨fw_blind, fw_recv hK hP (fw_Vs (f := 0) (by decide) hj0) rfl rfl, fun U hU9 hW9 => ⟨rfl, fw_pre hK hP hSt hS U hU9 hW9⟩⟩ rfl rfl hl.1 rfl (lv_room (Nat.le_of_ble_eq_true rfl)) dX8_returnToBags_13 ⟨Nat.zero_le _, Nat.zero_le _⟩) hS (fun H locs hP hS => ?_)
        refine lv_if_eq (tgt := 26) hx hb dX8_returnToBags_16 (by decide) (fun c3 => ?_) (fun c3 => ?_)
        · rw [if_pos c3] at h
          refine lv_iinc (v := (x2 + (1 : Int32))) (lv' := [(2, .int (x2 + (1 : Int32))), (0, .ref (fw_ad E j0 0)), (1, .int x1)]) hx hb dX8_returnToBags_26 hl (k := 2) rfl rfl (by decide) rfl (fun ls hl => ?_)
          refine lv_goto (tgt := 2) hx hb dX8_returnToBags_29 (by decide) ?_
          exact ih2 μ x1 (x2 + (1 : Int32)) H locs ls h hP hS (lv_sub hl [1, 2, 0] rfl)
        · rw [if_neg c3] at h
          refine lv_aload_n hx hb dX8_returnToBags_19 rfl (lv_at hl 0 rfl) ?_
          refine va_get (D := fw_D E) (ci := 6) (v := .ref (fw_ad E j0 5)) (C := RX7) (T := TX7) (N := 10) hx hb hU inU7 hown hK (fw_at hP (fw_Vs (f := 0) (by decide) hj0)) 0 rfl rfl 4 (by decide) (hU (Cond.fieldLink RX8 75 "LaundryService$State" "places" "[I") m_60) (fun _ h9 => h9) rfl dX8_returnToBags_20 ?_
          refine lv_iload_n hx hb dX8_returnToBags_23 rfl (lv_at hl 2 rfl) ?_
          refine lv_iconst (v := (0 : Int32)) hx hb dX8_returnToBags_24 (by decide) ?_
          obtain ⟨g4, h⟩ := fw_g_e h
          refine fw_iast (n := 16) hx hb hK hP hE hS (fw_Vs (f := 5) (by decide) hj0) (fun _ => rfl) (fw_in_e g4) dX8_returnToBags_25 (fun H locs hP hS => ?_)
          obtain ⟨μ5, eμ5, h⟩ := fw_l_e h
          rw [← eμ5] at hP
          refine lv_iinc (v := (x2 + (1 : Int32))) (lv' := [(2, .int (x2 + (1 : Int32))), (0, .ref (fw_ad E j0 0)), (1, .int x1)]) hx hb dX8_returnToBags_26 hl (k := 2) rfl rfl (by decide) rfl (fun ls hl => ?_)
          refine lv_goto (tgt := 2) hx hb dX8_returnToBags_29 (by decide) ?_
          exact ih2 μ5 x1 (x2 + (1 : Int32)) H locs ls h hP hS (lv_sub hl [1, 2, 0] rfl)
  have EN : ∀ (H : Heap) (locs : List Loc) (ls : Array Slot), fw_P E o d μ H → va_S (fw_A E) s.heap H locs → lv_has ls 3 [(0, .ref (fw_ad E j0 0)), (1, .int x1)] → W p l e (headSpec (fw_ws yX8_returnToBags cX8_returnToBags 3 none) ({ frames := 1, cells := 0, slots := 0, locals := 22 } : Room)).room s m args below meth c H locs 0 0 (MQ below (fw_Q E o d none μ') args s 0 0 (fw_A E)) (F0 m 0 ls []) := by
    intro H locs ls hP hS hl
    unfold f_X8_returnToBags at h
    refine lv_iconst (v := (0 : Int32)) hx hb dX8_returnToBags_0 (by decide) ?_
    refine lv_istore_n (lv' := [(2, .int (0 : Int32)), (0, .ref (fw_ad E j0 0)), (1, .int x1)]) hx hb dX8_returnToBags_1 rfl hl (by decide) rfl (fun ls hl => ?_)
    exact L2 1000 μ x1 (0 : Int32) H locs ls h hP hS (lv_sub hl [1, 2, 0] rfl)
  subst ha
  have hl := lv_entry ([.ref (fw_ad E j0 0), .int x1]) (n := 3) (Nat.le_of_ble_eq_true rfl)
  rw [lg_entry_eq]
  generalize (lg_sl ([.ref (fw_ad E j0 0), .int x1]) ++ List.replicate (3 - (lg_sl ([.ref (fw_ad E j0 0), .int x1])).length) Slot.unset).toArray = ls at hl ⊢
  exact EN s.heap [] ls hP va_S.rf hl
set_option maxHeartbeats 4000000 in
set_option maxRecDepth 100000 in
theorem k_X8_wash (l : Launch) {E : fw_E} {o : Int64} {d : UInt64} (hE : fw_ok E) {μ μ' : fw_M} {j0 : Nat} (hj0 : j0 < 12) (x1 : Int32) {r : Int32} (h : f_X8_wash μ j0 x1 = some (μ', r)) : Met l yX8_wash (fw_ws yX8_wash cX8_wash 3 (some .int)) ({ frames := 3, cells := 0, slots := 0, locals := 71 } : Room) (va_Pc [.ref (fw_ad E j0 0), .int x1] (fw_Pre E o d μ)) (fw_Q E o d (some (.int r)) μ') 0 0 (fw_A E) := by
  refine Met.ofW (cc := cX8_wash) (maxL := 3) (ret := (some .int)) (by decide) rfl ?_
  intro p e s m args below meth c s₁ B hml hv
  obtain ⟨ha, hK, hP, hSt⟩ := hv
  have hx := B.exec
  have hb := B.bytes
  have hr := B.returns
  have hts := atoms_spec (ws := fw_ws yX8_wash cX8_wash 3 (some .int)) B.pre
  have hU : ∀ w ∈ fw_U, w.before args s = true := fun w hw => hts w (List.mem_cons_of_mem _ hw)
  have hown : s.vm.findClass RX8 = some m.cls := findClass_of_methodNamed B.named
  have hlocks := B.notSynchronized
  have EN : ∀ (H : Heap) (locs : List Loc) (ls : Array Slot), fw_P E o d μ H → va_S (fw_A E) s.heap H locs → lv_has ls 3 [(0, .ref (fw_ad E j0 0)), (1, .int x1)] → W p l e (headSpec (fw_ws yX8_wash cX8_wash 3 (some .int)) ({ frames := 3, cells := 0, slots := 0, locals := 71 } : Room)).room s m args below meth c H locs 0 0 (MQ below (fw_Q E o d (some (.int r)) μ') args s 0 0 (fw_A E)) (F0 m 0 ls []) := by
    intro H locs ls hP hS hl
    unfold f_X8_wash at h
    refine lv_aload_n hx hb dX8_wash_0 rfl (lv_at hl 0 rfl) ?_
    refine lv_iload_n hx hb dX8_wash_1 rfl (lv_at hl 1 rfl) ?_
    obtain ⟨μ1, r1, hc1, h⟩ := fw_b2_e h
    refine fw_retv (va_runV (As := [.int x1]) (rest := []) ⟨hx, hb, hml, hown, hU⟩ (k_X7_charge l hE hj0 x1 hc1) (cwV 1 hU (fw_gV m_601 m_602 m_603 m_2 m_604) rfl rfl rfl (by decide +kernel) ⟨(Nat.le_of_ble_eq_true rfl), (Nat.le_of_ble_eq_true rfl)⟩) ⟨fw_blind, fw_recv hK hP (fw_Vs (f := 0) (by decide) hj0) rfl rfl, fun U hU9 hW9 => ⟨rfl, fw_pre hK hP hSt hS U hU9 hW9⟩⟩ rfl rfl hl.1 rfl (lv_room (Nat.le_of_ble_eq_true rfl)) dX8_wash_2 ⟨Nat.zero_le _, Nat.zero_le _⟩) hS (fun H locs hP hS => ?_)
    refine lv_aload_n hx hb dX8_wash_5 rfl (lv_at hl 0 rfl) ?_
    refine lv_dup hx hb dX8_wash_6 rfl ?_
    refine va_get (D := fw_D E) (ci := 6) (v := .int (μ1 j0 0 9)) (C := RX7) (T := TX7) (N := 10) hx hb hU inU7 hown hK (fw_at hP (fw_Vs (f := 0) (by decide) hj0)) 0 rfl rfl 9 (by decide) (hU (Cond.fieldLink RX8 15 "LaundryService$State" "runCount" "I") m_75) (fun _ h9 => h9) rfl dX8_wash_7 ?_
    refine lv_iconst (v := (1 : Int32)) hx hb dX8_wash_10 (by decide) ?_
    refine lv_iadd hx hb dX8_wash_11 ?_
    refine fw_put (ci := 6) (v := .int ((μ1 j0 0 9) + (1 : Int32))) (ty := .int) (C := RX7) (T := TX7) (N := 10) hx hb hU inU7 tyX7 tyX7_ok nmX7 hown hK hP hE hS (fw_Vs (f := 0) (by decide) hj0) rfl rfl 9 (by decide) (hU (Cond.fieldLink RX8 15 "LaundryService$State" "runCount" "I") m_75) (fun _ h9 => h9) rfl (by decide +kernel) rfl rfl (Nat.le_of_ble_eq_true rfl) 9 ((μ1 j0 0 9) + (1 : Int32)) (by rw [fw_u_c]; rfl) dX8_wash_12 (fun H locs hP hS => ?_)
    obtain ⟨μ2, eμ2, h⟩ := fw_l_e h
    rw [← eμ2] at hP
    refine lv_aload_n hx hb dX8_wash_15 rfl (lv_at hl 0 rfl) ?_
    refine lv_iload_n hx hb dX8_wash_16 rfl (lv_at hl 1 rfl) ?_
    obtain ⟨μ3, r3, hc3, h⟩ := fw_b2_e h
    refine fw_retv (va_runS (As := [.ref (fw_ad E j0 0), .int x1]) (rest := []) ⟨hx, hb, hml, hown, hU⟩ (k_X8_removeStains l hE hj0 x1 hc3) (va_cwS 2 hU (fw_gS m_289 m_290 m_23 m_291) rfl rfl rfl (by decide +kernel) ⟨(Nat.le_of_ble_eq_true rfl), (Nat.le_of_ble_eq_true rfl)⟩) ⟨fw_blind, fun U hU9 hW9 => ⟨rfl, fw_pre hK hP hSt hS U hU9 hW9⟩⟩ rfl rfl hl.1 rfl (lv_room (Nat.le_of_ble_eq_true rfl)) dX8_wash_17 ⟨Nat.zero_le _, Nat.zero_le _⟩) hS (fun H locs hP hS => ?_)
    refine lv_aload_n hx hb dX8_wash_20 rfl (lv_at hl 0 rfl) ?_
    refine lv_iload_n hx hb dX8_wash_21 rfl (lv_at hl 1 rfl) ?_
    obtain ⟨μ4, r4, hc4, h⟩ := fw_b2_e h
    refine fw_ret (va_runS (As := [.ref (fw_ad E j0 0), .int x1]) (rest := []) ⟨hx, hb, hml, hown, hU⟩ (k_X8_letColoursRun l hE hj0 x1 hc4) (va_cwS 2 hU (fw_gS m_296 m_297 m_23 m_298) rfl rfl rfl (by decide +kernel) ⟨(Nat.le_of_ble_eq_true rfl), (Nat.le_of_ble_eq_true rfl)⟩) ⟨fw_blind, fun U hU9 hW9 => ⟨rfl, fw_pre hK hP hSt hS U hU9 hW9⟩⟩ rfl rfl hl.1 rfl (lv_room (Nat.le_of_ble_eq_true rfl)) dX8_wash_22 ⟨Nat.zero_le _, Nat.zero_le _⟩) hS (fun H locs hP hS => ?_)
    refine lv_pop hx hb dX8_wash_25 rfl ?_
    refine lv_aload_n hx hb dX8_wash_26 rfl (lv_at hl 0 rfl) ?_
    refine lv_iload_n hx hb dX8_wash_27 rfl (lv_at hl 1 rfl) ?_
    obtain ⟨μ5, r5, hc5, h⟩ := fw_b2_e h
    refine fw_retv (va_runS (As := [.ref (fw_ad E j0 0), .int x1]) (rest := []) ⟨hx, hb, hml, hown, hU⟩ (k_X8_countWash l hE hj0 x1 hc5) (va_cwS 2 hU (fw_gS m_612 m_613 m_23 m_614) rfl rfl rfl (by decide +kernel) ⟨(Nat.le_of_ble_eq_true rfl), (Nat.le_of_ble_eq_true rfl)⟩) ⟨fw_blind, fun U hU9 hW9 => ⟨rfl, fw_pre hK hP hSt hS U hU9 hW9⟩⟩ rfl rfl hl.1 rfl (lv_room (Nat.le_of_ble_eq_true rfl)) dX8_wash_28 ⟨Nat.zero_le _, Nat.zero_le _⟩) hS (fun H locs hP hS => ?_)
    refine lv_aload_n hx hb dX8_wash_31 rfl (lv_at hl 0 rfl) ?_
    refine lv_iload_n hx hb dX8_wash_32 rfl (lv_at hl 1 rfl) ?_
    obtain ⟨μ6, r6, hc6, h⟩ := fw_b2_e h
    refine fw_ret (va_runS (As := [.ref (fw_ad E j0 0), .int x1]) (rest := []) ⟨hx, hb, hml, hown, hU⟩ (k_X8_loseSocks l hE hj0 x1 hc6) (va_cwS 2 hU (fw_gS m_299 m_300 m_23 m_301) rfl rfl rfl (by decide +kernel) ⟨(Nat.le_of_ble_eq_true rfl), (Nat.le_of_ble_eq_true rfl)⟩) ⟨fw_blind, fun U hU9 hW9 => ⟨rfl, fw_pre hK hP hSt hS U hU9 hW9⟩⟩ rfl rfl hl.1 rfl (lv_room (Nat.le_of_ble_eq_true rfl)) dX8_wash_33 ⟨Nat.zero_le _, Nat.zero_le _⟩) hS (fun H locs hP hS => ?_)
    refine lv_istore_n (lv' := [(2, .int r6), (0, .ref (fw_ad E j0 0)), (1, .int x1)]) hx hb dX8_wash_36 rfl hl (by decide) rfl (fun ls hl => ?_)
    refine lv_aload_n hx hb dX8_wash_37 rfl (lv_at hl 1 rfl) ?_
    refine lv_iload_n hx hb dX8_wash_38 rfl (lv_at hl 2 rfl) ?_
    obtain ⟨μ7, r7, hc7, h⟩ := fw_b2_e h
    refine fw_retv (va_runS (As := [.ref (fw_ad E j0 0), .int x1]) (rest := []) ⟨hx, hb, hml, hown, hU⟩ (k_X8_returnToBags l hE hj0 x1 hc7) (va_cwS 2 hU (fw_gS m_615 m_616 m_23 m_617) rfl rfl rfl (by decide +kernel) ⟨(Nat.le_of_ble_eq_true rfl), (Nat.le_of_ble_eq_true rfl)⟩) ⟨fw_blind, fun U hU9 hW9 => ⟨rfl, fw_pre hK hP hSt hS U hU9 hW9⟩⟩ rfl rfl hl.1 rfl (lv_room (Nat.le_of_ble_eq_true rfl)) dX8_wash_39 ⟨Nat.zero_le _, Nat.zero_le _⟩) hS (fun H locs hP hS => ?_)
    refine lv_iload_n hx hb dX8_wash_42 rfl (lv_at hl 0 rfl) ?_
    exact W.iret (v := r6) hx hb hr (fw_ew (mk := Value.int) h hP hS) hS.2.2 dX8_wash_43
  subst ha
  have hl := lv_entry ([.ref (fw_ad E j0 0), .int x1]) (n := 3) (Nat.le_of_ble_eq_true rfl)
  rw [lg_entry_eq]
  generalize (lg_sl ([.ref (fw_ad E j0 0), .int x1]) ++ List.replicate (3 - (lg_sl ([.ref (fw_ad E j0 0), .int x1])).length) Slot.unset).toArray = ls at hl ⊢
  exact EN s.heap [] ls hP va_S.rf hl
set_option maxHeartbeats 4000000 in
set_option maxRecDepth 100000 in
theorem k_X8_damageOfWashing (l : Launch) {E : fw_E} {o : Int64} {d : UInt64} (hE : fw_ok E) {μ μ' : fw_M} {j0 : Nat} (hj0 : j0 < 12) (x1 : Int32) {r : Int32} (h : f_X8_damageOfWashing μ j0 x1 = some (μ', r)) : Met l yX8_damageOfWashing (fw_ws yX8_damageOfWashing cX8_damageOfWashing 5 (some .int)) ({ frames := 3, cells := 0, slots := 0, locals := 69 } : Room) (va_Pc [.ref (fw_ad E j0 0), .int x1] (fw_Pre E o d μ)) (fw_Q E o d (some (.int r)) μ') 0 0 (fw_A E) := by
  refine Met.ofW (cc := cX8_damageOfWashing) (maxL := 5) (ret := (some .int)) (by decide) rfl ?_
  intro p e s m args below meth c s₁ B hml hv
  obtain ⟨ha, hK, hP, hSt⟩ := hv
  have hx := B.exec
  have hb := B.bytes
  have hr := B.returns
  have hts := atoms_spec (ws := fw_ws yX8_damageOfWashing cX8_damageOfWashing 5 (some .int)) B.pre
  have hU : ∀ w ∈ fw_U, w.before args s = true := fun w hw => hts w (List.mem_cons_of_mem _ hw)
  have hown : s.vm.findClass RX8 = some m.cls := findClass_of_methodNamed B.named
  have hlocks := B.notSynchronized
  have L9 : ∀ (n : Nat) (μ : fw_M) (x1 : Int32) (x2 : Int32) (x3 : Int32) (H : Heap) (locs : List Loc) (ls : Array Slot), f_X8_damageOfWashing_L9 j0 n μ x1 x2 x3 = some (μ', r) → fw_P E o d μ H → va_S (fw_A E) s.heap H locs → lv_has ls 5 [(0, .ref (fw_ad E j0 0)), (1, .int x1), (2, .int x2), (3, .int x3)] → W p l e (headSpec (fw_ws yX8_damageOfWashing cX8_damageOfWashing 5 (some .int)) ({ frames := 3, cells := 0, slots := 0, locals := 69 } : Room)).room s m args below meth c H locs 0 0 (MQ below (fw_Q E o d (some (.int r)) μ') args s 0 0 (fw_A E)) (F0 m 9 ls []) := by
    intro n9
    induction n9 with
    | zero => intro μ x1 x2 x3 H locs ls h; rw [f_X8_damageOfWashing_L9] at h; cases h
    | succ n9 ih9 =>
      intro μ x1 x2 x3 H locs ls h hP hS hl
      rw [f_X8_damageOfWashing_L9] at h
      refine lv_iload_n hx hb dX8_damageOfWashing_9 rfl (lv_at hl 3 rfl) ?_
      refine lv_aload_n hx hb dX8_damageOfWashing_10 rfl (lv_at hl 0 rfl) ?_
      refine va_get (D := fw_D E) (ci := 6) (v := .int (μ j0 0 6)) (C := RX7) (T := TX7) (N := 10) hx hb hU inU7 hown hK (fw_at hP (fw_Vs (f := 0) (by decide) hj0)) 0 rfl rfl 6 (by decide) (hU (Cond.fieldLink RX8 38 "LaundryService$State" "garmentCount" "I") m_67) (fun _ h9 => h9) rfl dX8_damageOfWashing_11 ?_
      refine lv_icmp_ge (tgt := 40) hx hb dX8_damageOfWashing_14 (by decide) (fun c2 => ?_) (fun c2 => ?_)
      · rw [if_pos c2] at h
        refine lv_aload_n hx hb dX8_damageOfWashing_40 rfl (lv_at hl 0 rfl) ?_
        refine lv_iload_n hx hb dX8_damageOfWashing_41 rfl (lv_at hl 1 rfl) ?_
        obtain ⟨μ3, r3, hc3, h⟩ := fw_b2_e h
        refine fw_ret (va_runS (As := [.ref (fw_ad E j0 0), .int x1]) (rest := []) ⟨hx, hb, hml, hown, hU⟩ (k_X8_letColoursRun l hE hj0 x1 hc3) (va_cwS 2 hU (fw_gS m_296 m_297 m_23 m_298) rfl rfl rfl (by decide +kernel) ⟨(Nat.le_of_ble_eq_true rfl), (Nat.le_of_ble_eq_true rfl)⟩) ⟨fw_blind, fun U hU9 hW9 => ⟨rfl, fw_pre hK hP hSt hS U hU9 hW9⟩⟩ rfl rfl hl.1 rfl (lv_room (Nat.le_of_ble_eq_true rfl)) dX8_damageOfWashing_42 ⟨Nat.zero_le _, Nat.zero_le _⟩) hS (fun H locs hP hS => ?_)
        refine lv_istore_n (lv' := [(3, .int r3), (0, .ref (fw_ad E j0 0)), (1, .int x1), (2, .int x2)]) hx hb dX8_damageOfWashing_45 rfl hl (by decide) rfl (fun ls hl => ?_)
        refine lv_aload_n hx hb dX8_damageOfWashing_46 rfl (lv_at hl 1 rfl) ?_
        refine lv_iload_n hx hb dX8_damageOfWashing_47 rfl (lv_at hl 2 rfl) ?_
        obtain ⟨μ4, r4, hc4, h⟩ := fw_b2_e h
        refine fw_ret (va_runS (As := [.ref (fw_ad E j0 0), .int x1]) (rest := []) ⟨hx, hb, hml, hown, hU⟩ (k_X8_loseSocks l hE hj0 x1 hc4) (va_cwS 2 hU (fw_gS m_299 m_300 m_23 m_301) rfl rfl rfl (by decide +kernel) ⟨(Nat.le_of_ble_eq_true rfl), (Nat.le_of_ble_eq_true rfl)⟩) ⟨fw_blind, fun U hU9 hW9 => ⟨rfl, fw_pre hK hP hSt hS U hU9 hW9⟩⟩ rfl rfl hl.1 rfl (lv_room (Nat.le_of_ble_eq_true rfl)) dX8_damageOfWashing_48 ⟨Nat.zero_le _, Nat.zero_le _⟩) hS (fun H locs hP hS => ?_)
        refine lv_istore (lv' := [(4, .int r4), (3, .int r3), (0, .ref (fw_ad E j0 0)), (1, .int x1), (2, .int x2)]) hx hb dX8_damageOfWashing_51 hl (by decide) rfl (fun ls hl => ?_)
        refine lv_iload_n hx hb dX8_damageOfWashing_53 rfl (lv_at hl 4 rfl) ?_
        refine lv_iconst (v := (3 : Int32)) hx hb dX8_damageOfWashing_54 (by decide) ?_
        refine lv_iload_n hx hb dX8_damageOfWashing_55 rfl (lv_at hl 1 rfl) ?_
        refine lv_imul hx hb dX8_damageOfWashing_56 ?_
        refine lv_iadd hx hb dX8_damageOfWashing_57 ?_
        refine lv_bipush (v := (10 : Int32)) hx hb dX8_damageOfWashing_58 (by decide) ?_
        refine lv_iload hx hb dX8_damageOfWashing_60 (lv_at hl 0 rfl) ?_
        refine lv_imul hx hb dX8_damageOfWashing_62 ?_
        refine lv_iadd hx hb dX8_damageOfWashing_63 ?_
        exact W.iret (v := ((x2 + ((3 : Int32) * r3)) + ((10 : Int32) * r4))) hx hb hr (fw_ew (mk := Value.int) h hP hS) hS.2.2 dX8_damageOfWashing_64
      · rw [if_neg c2] at h
        refine lv_aload_n hx hb dX8_damageOfWashing_17 rfl (lv_at hl 0 rfl) ?_
        refine lv_iload_n hx hb dX8_damageOfWashing_18 rfl (lv_at hl 3 rfl) ?_
        refine lv_iload_n hx hb dX8_damageOfWashing_19 rfl (lv_at hl 1 rfl) ?_
        obtain ⟨r5, hc5, h⟩ := fw_b1_e h
        refine fw_ret (va_runV (As := [.int x3, .int x1]) (rest := []) ⟨hx, hb, hml, hown, hU⟩ (k_X7_isIn l hE hj0 x3 x1 hc5) (cwV 2 hU (fw_gV m_276 m_256 m_257 m_2 m_258) rfl rfl rfl (by decide +kernel) ⟨(Nat.le_of_ble_eq_true rfl), (Nat.le_of_ble_eq_true rfl)⟩) ⟨fw_blind, fw_recv hK hP (fw_Vs (f := 0) (by decide) hj0) rfl rfl, fun U hU9 hW9 => ⟨rfl, fw_pre hK hP hSt hS U hU9 hW9⟩⟩ rfl rfl hl.1 rfl (lv_room (Nat.le_of_ble_eq_true rfl)) dX8_damageOfWashing_20 ⟨Nat.zero_le _, Nat.zero_le _⟩) hS (fun H locs hP hS => ?_)
        refine lv_if_eq (tgt := 34) hx hb dX8_damageOfWashing_23 (by decide) (fun c6 => ?_) (fun c6 => ?_)
        · rw [if_pos c6] at h
          refine lv_iinc (v := (x3 + (1 : Int32))) (lv' := [(3, .int (x3 + (1 : Int32))), (0, .ref (fw_ad E j0 0)), (1, .int x1), (2, .int x2)]) hx hb dX8_damageOfWashing_34 hl (k := 3) rfl rfl (by decide) rfl (fun ls hl => ?_)
          refine lv_goto (tgt := 9) hx hb dX8_damageOfWashing_37 (by decide) ?_
          exact ih9 μ x1 x2 (x3 + (1 : Int32)) H locs ls h hP hS (lv_sub hl [1, 2, 3, 0] rfl)
        · rw [if_neg c6] at h
          refine lv_iload_n hx hb dX8_damageOfWashing_26 rfl (lv_at hl 2 rfl) ?_
          refine lv_aload_n hx hb dX8_damageOfWashing_27 rfl (lv_at hl 0 rfl) ?_
          refine lv_iload_n hx hb dX8_damageOfWashing_28 rfl (lv_at hl 3 rfl) ?_
          obtain ⟨r7, hc7, h⟩ := fw_b1_e h
          refine fw_ret (va_runV (As := [.int x3]) (rest := [.int x2]) ⟨hx, hb, hml, hown, hU⟩ (k_X7_stainsOn l hE hj0 x3 hc7) (cwV 1 hU (fw_gV m_292 m_293 m_294 m_2 m_295) rfl rfl rfl (by decide +kernel) ⟨(Nat.le_of_ble_eq_true rfl), (Nat.le_of_ble_eq_true rfl)⟩) ⟨fw_blind, fw_recv hK hP (fw_Vs (f := 0) (by decide) hj0) rfl rfl, fun U hU9 hW9 => ⟨rfl, fw_pre hK hP hSt hS U hU9 hW9⟩⟩ rfl rfl hl.1 rfl (lv_room (Nat.le_of_ble_eq_true rfl)) dX8_damageOfWashing_29 ⟨Nat.zero_le _, Nat.zero_le _⟩) hS (fun H locs hP hS => ?_)
          refine lv_iadd hx hb dX8_damageOfWashing_32 ?_
          refine lv_istore_n (lv' := [(2, .int (x2 + r7)), (0, .ref (fw_ad E j0 0)), (1, .int x1), (3, .int x3)]) hx hb dX8_damageOfWashing_33 rfl hl (by decide) rfl (fun ls hl => ?_)
          refine lv_iinc (v := (x3 + (1 : Int32))) (lv' := [(3, .int (x3 + (1 : Int32))), (2, .int (x2 + r7)), (0, .ref (fw_ad E j0 0)), (1, .int x1)]) hx hb dX8_damageOfWashing_34 hl (k := 3) rfl rfl (by decide) rfl (fun ls hl => ?_)
          refine lv_goto (tgt := 9) hx hb dX8_damageOfWashing_37 (by decide) ?_
          exact ih9 μ x1 (x2 + r7) (x3 + (1 : Int32)) H locs ls h hP hS (lv_sub hl [2, 3, 1, 0] rfl)
  have EN : ∀ (H : Heap) (locs : List Loc) (ls : Array Slot), fw_P E o d μ H → va_S (fw_A E) s.heap H locs → lv_has ls 5 [(0, .ref (fw_ad E j0 0)), (1, .int x1)] → W p l e (headSpec (fw_ws yX8_damageOfWashing cX8_damageOfWashing 5 (some .int)) ({ frames := 3, cells := 0, slots := 0, locals := 69 } : Room)).room s m args below meth c H locs 0 0 (MQ below (fw_Q E o d (some (.int r)) μ') args s 0 0 (fw_A E)) (F0 m 0 ls []) := by
    intro H locs ls hP hS hl
    unfold f_X8_damageOfWashing at h
    refine lv_aload_n hx hb dX8_damageOfWashing_0 rfl (lv_at hl 0 rfl) ?_
    refine lv_iload_n hx hb dX8_damageOfWashing_1 rfl (lv_at hl 1 rfl) ?_
    obtain ⟨μ1, r1, hc1, h⟩ := fw_b2_e h
    refine fw_retv (va_runS (As := [.ref (fw_ad E j0 0), .int x1]) (rest := []) ⟨hx, hb, hml, hown, hU⟩ (k_X8_removeStains l hE hj0 x1 hc1) (va_cwS 2 hU (fw_gS m_289 m_290 m_23 m_291) rfl rfl rfl (by decide +kernel) ⟨(Nat.le_of_ble_eq_true rfl), (Nat.le_of_ble_eq_true rfl)⟩) ⟨fw_blind, fun U hU9 hW9 => ⟨rfl, fw_pre hK hP hSt hS U hU9 hW9⟩⟩ rfl rfl hl.1 rfl (lv_room (Nat.le_of_ble_eq_true rfl)) dX8_damageOfWashing_2 ⟨Nat.zero_le _, Nat.zero_le _⟩) hS (fun H locs hP hS => ?_)
    refine lv_iconst (v := (0 : Int32)) hx hb dX8_damageOfWashing_5 (by decide) ?_
    refine lv_istore_n (lv' := [(2, .int (0 : Int32)), (0, .ref (fw_ad E j0 0)), (1, .int x1)]) hx hb dX8_damageOfWashing_6 rfl hl (by decide) rfl (fun ls hl => ?_)
    refine lv_iconst (v := (0 : Int32)) hx hb dX8_damageOfWashing_7 (by decide) ?_
    refine lv_istore_n (lv' := [(3, .int (0 : Int32)), (2, .int (0 : Int32)), (0, .ref (fw_ad E j0 0)), (1, .int x1)]) hx hb dX8_damageOfWashing_8 rfl hl (by decide) rfl (fun ls hl => ?_)
    exact L9 1000 μ1 x1 (0 : Int32) (0 : Int32) H locs ls h hP hS (lv_sub hl [2, 3, 1, 0] rfl)
  subst ha
  have hl := lv_entry ([.ref (fw_ad E j0 0), .int x1]) (n := 5) (Nat.le_of_ble_eq_true rfl)
  rw [lg_entry_eq]
  generalize (lg_sl ([.ref (fw_ad E j0 0), .int x1]) ++ List.replicate (5 - (lg_sl ([.ref (fw_ad E j0 0), .int x1])).length) Slot.unset).toArray = ls at hl ⊢
  exact EN s.heap [] ls hP va_S.rf hl
set_option maxHeartbeats 4000000 in
set_option maxRecDepth 100000 in
theorem k_X8_singleSockColours (l : Launch) {E : fw_E} {o : Int64} {d : UInt64} (hE : fw_ok E) {μ : fw_M} {j0 : Nat} (hj0 : j0 < 12) (x1 : Int32) {r : Int32} (h : f_X8_singleSockColours μ j0 x1 = some r) : Met l yX8_singleSockColours (fw_ws yX8_singleSockColours cX8_singleSockColours 6 (some .int)) ({ frames := 1, cells := 0, slots := 0, locals := 22 } : Room) (va_Pc [.ref (fw_ad E j0 0), .int x1] (fw_Pre E o d μ)) (fw_Q E o d (some (.int r)) μ) 0 0 (fw_A E) := by
  refine Met.ofW (cc := cX8_singleSockColours) (maxL := 6) (ret := (some .int)) (by decide) rfl ?_
  intro p e s m args below meth c s₁ B hml hv
  obtain ⟨ha, hK, hP, hSt⟩ := hv
  have hx := B.exec
  have hb := B.bytes
  have hr := B.returns
  have hts := atoms_spec (ws := fw_ws yX8_singleSockColours cX8_singleSockColours 6 (some .int)) B.pre
  have hU : ∀ w ∈ fw_U, w.before args s = true := fun w hw => hts w (List.mem_cons_of_mem _ hw)
  have hown : s.vm.findClass RX8 = some m.cls := findClass_of_methodNamed B.named
  have hlocks := B.notSynchronized
  have L7 : ∀ (n : Nat) (x1 : Int32) (x2 : Int32) (x3 : Int32) (x4 : Int32) (H : Heap) (locs : List Loc) (ls : Array Slot), f_X8_singleSockColours_L7 μ j0 n x1 x2 x3 x4 = some r → fw_P E o d μ H → va_S (fw_A E) s.heap H locs → lv_has ls 6 [(0, .ref (fw_ad E j0 0)), (1, .int x1), (2, .int x2), (3, .int x3), (4, .int x4)] → W p l e (headSpec (fw_ws yX8_singleSockColours cX8_singleSockColours 6 (some .int)) ({ frames := 1, cells := 0, slots := 0, locals := 22 } : Room)).room s m args below meth c H locs 0 0 (MQ below (fw_Q E o d (some (.int r)) μ) args s 0 0 (fw_A E)) (F0 m 7 ls []) := by
    intro n7
    induction n7 with
    | zero => intro x1 x2 x3 x4 H locs ls h; rw [f_X8_singleSockColours_L7] at h; cases h
    | succ n7 ih7 =>
      intro x1 x2 x3 x4 H locs ls h hP hS hl
      rw [f_X8_singleSockColours_L7] at h
      refine lv_iload hx hb dX8_singleSockColours_7 (lv_at hl 4 rfl) ?_
      refine lv_aload_n hx hb dX8_singleSockColours_9 rfl (lv_at hl 0 rfl) ?_
      refine va_get (D := fw_D E) (ci := 6) (v := .int (μ j0 0 6)) (C := RX7) (T := TX7) (N := 10) hx hb hU inU7 hown hK (fw_at hP (fw_Vs (f := 0) (by decide) hj0)) 0 rfl rfl 6 (by decide) (hU (Cond.fieldLink RX8 38 "LaundryService$State" "garmentCount" "I") m_67) (fun _ h9 => h9) rfl dX8_singleSockColours_10 ?_
      refine lv_icmp_ge (tgt := 65) hx hb dX8_singleSockColours_13 (by decide) (fun c1 => ?_) (fun c1 => ?_)
      · rw [if_pos c1] at h
        refine lv_iload_n hx hb dX8_singleSockColours_65 rfl (lv_at hl 2 rfl) ?_
        refine lv_iload_n hx hb dX8_singleSockColours_66 rfl (lv_at hl 3 rfl) ?_
        refine lv_iconst (v := (-1 : Int32)) hx hb dX8_singleSockColours_67 (by decide) ?_
        refine lv_ixor hx hb dX8_singleSockColours_68 ?_
        refine lv_iand hx hb dX8_singleSockColours_69 ?_
        exact W.iret (v := (x2 &&& (x3 ^^^ (-1 : Int32)))) hx hb hr (fw_er (mk := Value.int) h hP hS) hS.2.2 dX8_singleSockColours_70
      · rw [if_neg c1] at h
        refine lv_aload_n hx hb dX8_singleSockColours_16 rfl (lv_at hl 0 rfl) ?_
        refine lv_iload hx hb dX8_singleSockColours_17 (lv_at hl 4 rfl) ?_
        refine lv_iload_n hx hb dX8_singleSockColours_19 rfl (lv_at hl 1 rfl) ?_
        obtain ⟨r2, hc2, h⟩ := fw_b1_e h
        refine fw_ret (va_runV (As := [.int x4, .int x1]) (rest := []) ⟨hx, hb, hml, hown, hU⟩ (k_X7_isIn l hE hj0 x4 x1 hc2) (cwV 2 hU (fw_gV m_276 m_256 m_257 m_2 m_258) rfl rfl rfl (by decide +kernel) ⟨(Nat.le_of_ble_eq_true rfl), (Nat.le_of_ble_eq_true rfl)⟩) ⟨fw_blind, fw_recv hK hP (fw_Vs (f := 0) (by decide) hj0) rfl rfl, fun U hU9 hW9 => ⟨rfl, fw_pre hK hP hSt hS U hU9 hW9⟩⟩ rfl rfl hl.1 rfl (lv_room (Nat.le_of_ble_eq_true rfl)) dX8_singleSockColours_20 ⟨Nat.zero_le _, Nat.zero_le _⟩) hS (fun H locs hP hS => ?_)
        refine lv_if_eq (tgt := 59) hx hb dX8_singleSockColours_23 (by decide) (fun c3 => ?_) (fun c3 => ?_)
        · rw [if_pos c3] at h
          refine lv_iinc (v := (x4 + (1 : Int32))) (lv' := [(4, .int (x4 + (1 : Int32))), (0, .ref (fw_ad E j0 0)), (1, .int x1), (2, .int x2), (3, .int x3)]) hx hb dX8_singleSockColours_59 hl (k := 4) rfl rfl (by decide) rfl (fun ls hl => ?_)
          refine lv_goto (tgt := 7) hx hb dX8_singleSockColours_62 (by decide) ?_
          exact ih7 x1 x2 x3 (x4 + (1 : Int32)) H locs ls h hP hS (lv_sub hl [1, 2, 3, 4, 0] rfl)
        · rw [if_neg c3] at h
          refine lv_aload_n hx hb dX8_singleSockColours_26 rfl (lv_at hl 0 rfl) ?_
          refine va_get (D := fw_D E) (ci := 6) (v := .ref (fw_ad E j0 2)) (C := RX7) (T := TX7) (N := 10) hx hb hU inU7 hown hK (fw_at hP (fw_Vs (f := 0) (by decide) hj0)) 0 rfl rfl 1 (by decide) (hU (Cond.fieldLink RX8 78 "LaundryService$State" "socks" "[Z") m_50) (fun _ h9 => h9) rfl dX8_singleSockColours_27 ?_
          refine lv_iload hx hb dX8_singleSockColours_30 (lv_at hl 4 rfl) ?_
          obtain ⟨g4, h⟩ := fw_g_e h
          refine va_zald (D := fw_D E) hx hb hK (fw_at hP (fw_Vs (f := 2) (by decide) hj0)) 0 1 rfl rfl (fw_in_e g4) dX8_singleSockColours_32 ?_
          refine lv_if_eq (tgt := 59) hx hb dX8_singleSockColours_33 (by decide) (fun c5 => ?_) (fun c5 => ?_)
          · rw [if_pos c5] at h
            refine lv_iinc (v := (x4 + (1 : Int32))) (lv' := [(4, .int (x4 + (1 : Int32))), (0, .ref (fw_ad E j0 0)), (1, .int x1), (2, .int x2), (3, .int x3)]) hx hb dX8_singleSockColours_59 hl (k := 4) rfl rfl (by decide) rfl (fun ls hl => ?_)
            refine lv_goto (tgt := 7) hx hb dX8_singleSockColours_62 (by decide) ?_
            exact ih7 x1 x2 x3 (x4 + (1 : Int32)) H locs ls h hP hS (lv_sub hl [1, 2, 3, 4, 0] rfl)
          · rw [if_neg c5] at h
            refine lv_iconst (v := (1 : Int32)) hx hb dX8_singleSockColours_36 (by decide) ?_
            refine lv_aload_n hx hb dX8_singleSockColours_37 rfl (lv_at hl 0 rfl) ?_
            refine va_get (D := fw_D E) (ci := 6) (v := .ref (fw_ad E j0 3)) (C := RX7) (T := TX7) (N := 10) hx hb hU inU7 hown hK (fw_at hP (fw_Vs (f := 0) (by decide) hj0)) 0 rfl rfl 2 (by decide) (hU (Cond.fieldLink RX8 62 "LaundryService$State" "colours" "[I") m_54) (fun _ h9 => h9) rfl dX8_singleSockColours_38 ?_
            refine lv_iload hx hb dX8_singleSockColours_41 (lv_at hl 4 rfl) ?_
            refine va_iald (D := fw_D E) hx hb hK (fw_at hP (fw_Vs (f := 3) (by decide) hj0)) 0 0 rfl rfl (fw_in_e g4) dX8_singleSockColours_43 ?_
            refine lv_ishl hx hb dX8_singleSockColours_44 ?_
            refine lv_istore (lv' := [(5, .int ((1 : Int32) <<< ((μ j0 3 x4.toNatClampNeg) &&& (31 : Int32)))), (0, .ref (fw_ad E j0 0)), (1, .int x1), (2, .int x2), (3, .int x3), (4, .int x4)]) hx hb dX8_singleSockColours_45 hl (by decide) rfl (fun ls hl => ?_)
            refine lv_iload_n hx hb dX8_singleSockColours_47 rfl (lv_at hl 4 rfl) ?_
            refine lv_iload_n hx hb dX8_singleSockColours_48 rfl (lv_at hl 3 rfl) ?_
            refine lv_iload hx hb dX8_singleSockColours_49 (lv_at hl 0 rfl) ?_
            refine lv_iand hx hb dX8_singleSockColours_51 ?_
            refine lv_ior hx hb dX8_singleSockColours_52 ?_
            refine lv_istore_n (lv' := [(3, .int (x3 ||| (x2 &&& ((1 : Int32) <<< ((μ j0 3 x4.toNatClampNeg) &&& (31 : Int32)))))), (5, .int ((1 : Int32) <<< ((μ j0 3 x4.toNatClampNeg) &&& (31 : Int32)))), (0, .ref (fw_ad E j0 0)), (1, .int x1), (2, .int x2), (4, .int x4)]) hx hb dX8_singleSockColours_53 rfl hl (by decide) rfl (fun ls hl => ?_)
            refine lv_iload_n hx hb dX8_singleSockColours_54 rfl (lv_at hl 4 rfl) ?_
            refine lv_iload hx hb dX8_singleSockColours_55 (lv_at hl 1 rfl) ?_
            refine lv_ior hx hb dX8_singleSockColours_57 ?_
            refine lv_istore_n (lv' := [(2, .int (x2 ||| ((1 : Int32) <<< ((μ j0 3 x4.toNatClampNeg) &&& (31 : Int32))))), (3, .int (x3 ||| (x2 &&& ((1 : Int32) <<< ((μ j0 3 x4.toNatClampNeg) &&& (31 : Int32)))))), (5, .int ((1 : Int32) <<< ((μ j0 3 x4.toNatClampNeg) &&& (31 : Int32)))), (0, .ref (fw_ad E j0 0)), (1, .int x1), (4, .int x4)]) hx hb dX8_singleSockColours_58 rfl hl (by decide) rfl (fun ls hl => ?_)
            refine lv_iinc (v := (x4 + (1 : Int32))) (lv' := [(4, .int (x4 + (1 : Int32))), (2, .int (x2 ||| ((1 : Int32) <<< ((μ j0 3 x4.toNatClampNeg) &&& (31 : Int32))))), (3, .int (x3 ||| (x2 &&& ((1 : Int32) <<< ((μ j0 3 x4.toNatClampNeg) &&& (31 : Int32)))))), (5, .int ((1 : Int32) <<< ((μ j0 3 x4.toNatClampNeg) &&& (31 : Int32)))), (0, .ref (fw_ad E j0 0)), (1, .int x1)]) hx hb dX8_singleSockColours_59 hl (k := 5) rfl rfl (by decide) rfl (fun ls hl => ?_)
            refine lv_goto (tgt := 7) hx hb dX8_singleSockColours_62 (by decide) ?_
            exact ih7 x1 (x2 ||| ((1 : Int32) <<< ((μ j0 3 x4.toNatClampNeg) &&& (31 : Int32)))) (x3 ||| (x2 &&& ((1 : Int32) <<< ((μ j0 3 x4.toNatClampNeg) &&& (31 : Int32))))) (x4 + (1 : Int32)) H locs ls h hP hS (lv_sub hl [4, 5, 1, 2, 0] rfl)
  have EN : ∀ (H : Heap) (locs : List Loc) (ls : Array Slot), fw_P E o d μ H → va_S (fw_A E) s.heap H locs → lv_has ls 6 [(0, .ref (fw_ad E j0 0)), (1, .int x1)] → W p l e (headSpec (fw_ws yX8_singleSockColours cX8_singleSockColours 6 (some .int)) ({ frames := 1, cells := 0, slots := 0, locals := 22 } : Room)).room s m args below meth c H locs 0 0 (MQ below (fw_Q E o d (some (.int r)) μ) args s 0 0 (fw_A E)) (F0 m 0 ls []) := by
    intro H locs ls hP hS hl
    unfold f_X8_singleSockColours at h
    refine lv_iconst (v := (0 : Int32)) hx hb dX8_singleSockColours_0 (by decide) ?_
    refine lv_istore_n (lv' := [(2, .int (0 : Int32)), (0, .ref (fw_ad E j0 0)), (1, .int x1)]) hx hb dX8_singleSockColours_1 rfl hl (by decide) rfl (fun ls hl => ?_)
    refine lv_iconst (v := (0 : Int32)) hx hb dX8_singleSockColours_2 (by decide) ?_
    refine lv_istore_n (lv' := [(3, .int (0 : Int32)), (2, .int (0 : Int32)), (0, .ref (fw_ad E j0 0)), (1, .int x1)]) hx hb dX8_singleSockColours_3 rfl hl (by decide) rfl (fun ls hl => ?_)
    refine lv_iconst (v := (0 : Int32)) hx hb dX8_singleSockColours_4 (by decide) ?_
    refine lv_istore (lv' := [(4, .int (0 : Int32)), (3, .int (0 : Int32)), (2, .int (0 : Int32)), (0, .ref (fw_ad E j0 0)), (1, .int x1)]) hx hb dX8_singleSockColours_5 hl (by decide) rfl (fun ls hl => ?_)
    exact L7 1000 x1 (0 : Int32) (0 : Int32) (0 : Int32) H locs ls h hP hS (lv_sub hl [3, 4, 2, 1, 0] rfl)
  subst ha
  have hl := lv_entry ([.ref (fw_ad E j0 0), .int x1]) (n := 6) (Nat.le_of_ble_eq_true rfl)
  rw [lg_entry_eq]
  generalize (lg_sl ([.ref (fw_ad E j0 0), .int x1]) ++ List.replicate (6 - (lg_sl ([.ref (fw_ad E j0 0), .int x1])).length) Slot.unset).toArray = ls at hl ⊢
  exact EN s.heap [] ls hP va_S.rf hl
set_option maxHeartbeats 4000000 in
set_option maxRecDepth 100000 in
theorem k_X8_damageFromSets (l : Launch) {E : fw_E} {o : Int64} {d : UInt64} (hE : fw_ok E) {μ : fw_M} {j0 : Nat} (hj0 : j0 < 12) (x1 : Int32) (x2 : Int32) {r : Int32} (h : f_X8_damageFromSets μ j0 x1 x2 = some r) : Met l yX8_damageFromSets (fw_ws yX8_damageFromSets cX8_damageFromSets 12 (some .int)) ({ frames := 2, cells := 0, slots := 0, locals := 47 } : Room) (va_Pc [.ref (fw_ad E j0 0), .int x1, .int x2] (fw_Pre E o d μ)) (fw_Q E o d (some (.int r)) μ) 0 0 (fw_A E) := by
  refine Met.ofW (cc := cX8_damageFromSets) (maxL := 12) (ret := (some .int)) (by decide) rfl ?_
  intro p e s m args below meth c s₁ B hml hv
  obtain ⟨ha, hK, hP, hSt⟩ := hv
  have hx := B.exec
  have hb := B.bytes
  have hr := B.returns
  have hts := atoms_spec (ws := fw_ws yX8_damageFromSets cX8_damageFromSets 12 (some .int)) B.pre
  have hU : ∀ w ∈ fw_U, w.before args s = true := fun w hw => hts w (List.mem_cons_of_mem _ hw)
  have hown : s.vm.findClass RX8 = some m.cls := findClass_of_methodNamed B.named
  have hlocks := B.notSynchronized
  have L58 : ∀ (n : Nat) (x1 : Int32) (x3 : Int32) (x4 : Int32) (x5 : Int32) (x6 : Int32) (x7 : Int32) (H : Heap) (locs : List Loc) (ls : Array Slot), f_X8_damageFromSets_L58 μ j0 n x1 x3 x4 x5 x6 x7 = some r → fw_P E o d μ H → va_S (fw_A E) s.heap H locs → lv_has ls 12 [(0, .ref (fw_ad E j0 0)), (1, .int x1), (3, .int x3), (4, .int x4), (5, .int x5), (6, .int x6), (7, .int x7)] → W p l e (headSpec (fw_ws yX8_damageFromSets cX8_damageFromSets 12 (some .int)) ({ frames := 2, cells := 0, slots := 0, locals := 47 } : Room)).room s m args below meth c H locs 0 0 (MQ below (fw_Q E o d (some (.int r)) μ) args s 0 0 (fw_A E)) (F0 m 58 ls []) := by
    intro n58
    induction n58 with
    | zero => intro x1 x3 x4 x5 x6 x7 H locs ls h; rw [f_X8_damageFromSets_L58] at h; cases h
    | succ n58 ih58 =>
      have J165 : ∀ (x1 : Int32) (x3 : Int32) (x4 : Int32) (x5 : Int32) (x6 : Int32) (x7 : Int32) (x10 : Int32) (s0 : Int32) (H : Heap) (locs : List Loc) (ls : Array Slot), f_X8_damageFromSets_J165 (f_X8_damageFromSets_L58 μ j0 n58) μ j0 x1 x3 x4 x5 x6 x7 x10 s0 = some r → fw_P E o d μ H → va_S (fw_A E) s.heap H locs → lv_has ls 12 [(0, .ref (fw_ad E j0 0)), (1, .int x1), (3, .int x3), (4, .int x4), (5, .int x5), (6, .int x6), (7, .int x7), (10, .int x10)] → W p l e (headSpec (fw_ws yX8_damageFromSets cX8_damageFromSets 12 (some .int)) ({ frames := 2, cells := 0, slots := 0, locals := 47 } : Room)).room s m args below meth c H locs 0 0 (MQ below (fw_Q E o d (some (.int r)) μ) args s 0 0 (fw_A E)) (F0 m 165 ls [.int s0]) := by
        intro x1 x3 x4 x5 x6 x7 x10 s0 H locs ls h hP hS hl
        unfold f_X8_damageFromSets_J165 at h
        refine lv_istore (lv' := [(11, .int s0), (0, .ref (fw_ad E j0 0)), (1, .int x1), (3, .int x3), (4, .int x4), (5, .int x5), (6, .int x6), (7, .int x7), (10, .int x10)]) hx hb dX8_damageFromSets_165 hl (by decide) rfl (fun ls hl => ?_)
        refine lv_iload hx hb dX8_damageFromSets_167 (lv_at hl 6 rfl) ?_
        refine lv_aload_n hx hb dX8_damageFromSets_169 rfl (lv_at hl 1 rfl) ?_
        refine va_get (D := fw_D E) (ci := 6) (v := .ref (fw_ad E j0 2)) (C := RX7) (T := TX7) (N := 10) hx hb hU inU7 hown hK (fw_at hP (fw_Vs (f := 0) (by decide) hj0)) 0 rfl rfl 1 (by decide) (hU (Cond.fieldLink RX8 78 "LaundryService$State" "socks" "[Z") m_50) (fun _ h9 => h9) rfl dX8_damageFromSets_170 ?_
        refine lv_iload hx hb dX8_damageFromSets_173 (lv_at hl 7 rfl) ?_
        obtain ⟨g17, h⟩ := fw_g_e h
        refine va_zald (D := fw_D E) hx hb hK (fw_at hP (fw_Vs (f := 2) (by decide) hj0)) 0 1 rfl rfl (fw_in_e g17) dX8_damageFromSets_175 ?_
        refine lv_if_eq (tgt := 194) hx hb dX8_damageFromSets_176 (by decide) (fun c18 => ?_) (fun c18 => ?_)
        · rw [if_pos c18] at h
          refine lv_iconst (v := (0 : Int32)) hx hb dX8_damageFromSets_194 (by decide) ?_
          refine lv_iadd hx hb dX8_damageFromSets_195 ?_
          refine lv_istore (lv' := [(6, .int (x6 + (0 : Int32))), (11, .int s0), (0, .ref (fw_ad E j0 0)), (1, .int x1), (3, .int x3), (4, .int x4), (5, .int x5), (7, .int x7), (10, .int x10)]) hx hb dX8_damageFromSets_196 hl (by decide) rfl (fun ls hl => ?_)
          refine lv_iinc (v := (x7 + (1 : Int32))) (lv' := [(7, .int (x7 + (1 : Int32))), (6, .int (x6 + (0 : Int32))), (11, .int s0), (0, .ref (fw_ad E j0 0)), (1, .int x1), (3, .int x3), (4, .int x4), (5, .int x5), (10, .int x10)]) hx hb dX8_damageFromSets_198 hl (k := 7) rfl rfl (by decide) rfl (fun ls hl => ?_)
          refine lv_goto (tgt := 58) hx hb dX8_damageFromSets_201 (by decide) ?_
          exact ih58 x1 x3 x4 x5 (x6 + (0 : Int32)) (x7 + (1 : Int32)) H locs ls h hP hS (lv_sub hl [3, 4, 5, 6, 7, 1, 0] rfl)
        · rw [if_neg c18] at h
          refine lv_iload hx hb dX8_damageFromSets_179 (lv_at hl 8 rfl) ?_
          refine lv_if_eq (tgt := 194) hx hb dX8_damageFromSets_181 (by decide) (fun c19 => ?_) (fun c19 => ?_)
          · rw [if_pos c19] at h
            refine lv_iconst (v := (0 : Int32)) hx hb dX8_damageFromSets_194 (by decide) ?_
            refine lv_iadd hx hb dX8_damageFromSets_195 ?_
            refine lv_istore (lv' := [(6, .int (x6 + (0 : Int32))), (11, .int s0), (0, .ref (fw_ad E j0 0)), (1, .int x1), (3, .int x3), (4, .int x4), (5, .int x5), (7, .int x7), (10, .int x10)]) hx hb dX8_damageFromSets_196 hl (by decide) rfl (fun ls hl => ?_)
            refine lv_iinc (v := (x7 + (1 : Int32))) (lv' := [(7, .int (x7 + (1 : Int32))), (6, .int (x6 + (0 : Int32))), (11, .int s0), (0, .ref (fw_ad E j0 0)), (1, .int x1), (3, .int x3), (4, .int x4), (5, .int x5), (10, .int x10)]) hx hb dX8_damageFromSets_198 hl (k := 7) rfl rfl (by decide) rfl (fun ls hl => ?_)
            refine lv_goto (tgt := 58) hx hb dX8_damageFromSets_201 (by decide) ?_
            exact ih58 x1 x3 x4 x5 (x6 + (0 : Int32)) (x7 + (1 : Int32)) H locs ls h hP hS (lv_sub hl [3, 4, 5, 6, 7, 1, 0] rfl)
          · rw [if_neg c19] at h
            refine lv_iload hx hb dX8_damageFromSets_184 (lv_at hl 0 rfl) ?_
            refine lv_if_eq (tgt := 194) hx hb dX8_damageFromSets_186 (by decide) (fun c20 => ?_) (fun c20 => ?_)
            · rw [if_pos c20] at h
              refine lv_iconst (v := (0 : Int32)) hx hb dX8_damageFromSets_194 (by decide) ?_
              refine lv_iadd hx hb dX8_damageFromSets_195 ?_
              refine lv_istore (lv' := [(6, .int (x6 + (0 : Int32))), (11, .int s0), (0, .ref (fw_ad E j0 0)), (1, .int x1), (3, .int x3), (4, .int x4), (5, .int x5), (7, .int x7), (10, .int x10)]) hx hb dX8_damageFromSets_196 hl (by decide) rfl (fun ls hl => ?_)
              refine lv_iinc (v := (x7 + (1 : Int32))) (lv' := [(7, .int (x7 + (1 : Int32))), (6, .int (x6 + (0 : Int32))), (11, .int s0), (0, .ref (fw_ad E j0 0)), (1, .int x1), (3, .int x3), (4, .int x4), (5, .int x5), (10, .int x10)]) hx hb dX8_damageFromSets_198 hl (k := 7) rfl rfl (by decide) rfl (fun ls hl => ?_)
              refine lv_goto (tgt := 58) hx hb dX8_damageFromSets_201 (by decide) ?_
              exact ih58 x1 x3 x4 x5 (x6 + (0 : Int32)) (x7 + (1 : Int32)) H locs ls h hP hS (lv_sub hl [3, 4, 5, 6, 7, 1, 0] rfl)
            · rw [if_neg c20] at h
              refine lv_bipush (v := (10 : Int32)) hx hb dX8_damageFromSets_189 (by decide) ?_
              refine lv_goto (tgt := 195) hx hb dX8_damageFromSets_191 (by decide) ?_
              refine lv_iadd hx hb dX8_damageFromSets_195 ?_
              refine lv_istore (lv' := [(6, .int (x6 + (10 : Int32))), (11, .int s0), (0, .ref (fw_ad E j0 0)), (1, .int x1), (3, .int x3), (4, .int x4), (5, .int x5), (7, .int x7), (10, .int x10)]) hx hb dX8_damageFromSets_196 hl (by decide) rfl (fun ls hl => ?_)
              refine lv_iinc (v := (x7 + (1 : Int32))) (lv' := [(7, .int (x7 + (1 : Int32))), (6, .int (x6 + (10 : Int32))), (11, .int s0), (0, .ref (fw_ad E j0 0)), (1, .int x1), (3, .int x3), (4, .int x4), (5, .int x5), (10, .int x10)]) hx hb dX8_damageFromSets_198 hl (k := 7) rfl rfl (by decide) rfl (fun ls hl => ?_)
              refine lv_goto (tgt := 58) hx hb dX8_damageFromSets_201 (by decide) ?_
              exact ih58 x1 x3 x4 x5 (x6 + (10 : Int32)) (x7 + (1 : Int32)) H locs ls h hP hS (lv_sub hl [3, 4, 5, 6, 7, 1, 0] rfl)
      have J142 : ∀ (x1 : Int32) (x3 : Int32) (x4 : Int32) (x5 : Int32) (x6 : Int32) (x7 : Int32) (s0 : Int32) (H : Heap) (locs : List Loc) (ls : Array Slot), f_X8_damageFromSets_J142 (f_X8_damageFromSets_L58 μ j0 n58) μ j0 x1 x3 x4 x5 x6 x7 s0 = some r → fw_P E o d μ H → va_S (fw_A E) s.heap H locs → lv_has ls 12 [(0, .ref (fw_ad E j0 0)), (1, .int x1), (3, .int x3), (4, .int x4), (5, .int x5), (6, .int x6), (7, .int x7)] → W p l e (headSpec (fw_ws yX8_damageFromSets cX8_damageFromSets 12 (some .int)) ({ frames := 2, cells := 0, slots := 0, locals := 47 } : Room)).room s m args below meth c H locs 0 0 (MQ below (fw_Q E o d (some (.int r)) μ) args s 0 0 (fw_A E)) (F0 m 142 ls [.int s0]) := by
        intro x1 x3 x4 x5 x6 x7 s0 H locs ls h hP hS hl
        unfold f_X8_damageFromSets_J142 at h
        refine lv_istore (lv' := [(10, .int s0), (0, .ref (fw_ad E j0 0)), (1, .int x1), (3, .int x3), (4, .int x4), (5, .int x5), (6, .int x6), (7, .int x7)]) hx hb dX8_damageFromSets_142 hl (by decide) rfl (fun ls hl => ?_)
        refine lv_iload hx hb dX8_damageFromSets_144 (lv_at hl 5 rfl) ?_
        refine lv_aload_n hx hb dX8_damageFromSets_146 rfl (lv_at hl 1 rfl) ?_
        refine va_get (D := fw_D E) (ci := 6) (v := .ref (fw_ad E j0 3)) (C := RX7) (T := TX7) (N := 10) hx hb hU inU7 hown hK (fw_at hP (fw_Vs (f := 0) (by decide) hj0)) 0 rfl rfl 2 (by decide) (hU (Cond.fieldLink RX8 62 "LaundryService$State" "colours" "[I") m_54) (fun _ h9 => h9) rfl dX8_damageFromSets_147 ?_
        refine lv_iload hx hb dX8_damageFromSets_150 (lv_at hl 7 rfl) ?_
        obtain ⟨g15, h⟩ := fw_g_e h
        refine va_iald (D := fw_D E) hx hb hK (fw_at hP (fw_Vs (f := 3) (by decide) hj0)) 0 0 rfl rfl (fw_in_e g15) dX8_damageFromSets_152 ?_
        refine lv_ishr hx hb dX8_damageFromSets_153 ?_
        refine lv_iconst (v := (1 : Int32)) hx hb dX8_damageFromSets_154 (by decide) ?_
        refine lv_iand hx hb dX8_damageFromSets_155 ?_
        refine lv_iconst (v := (1 : Int32)) hx hb dX8_damageFromSets_156 (by decide) ?_
        refine lv_icmp_ne (tgt := 164) hx hb dX8_damageFromSets_157 (by decide) (fun c16 => ?_) (fun c16 => ?_)
        · rw [if_neg c16] at h
          refine lv_iconst (v := (0 : Int32)) hx hb dX8_damageFromSets_164 (by decide) ?_
          exact J165 x1 x3 x4 x5 x6 x7 s0 (0 : Int32) H locs ls h hP hS (lv_sub hl [1, 2, 3, 4, 5, 6, 7, 0] rfl)
        · rw [if_pos c16] at h
          refine lv_iconst (v := (1 : Int32)) hx hb dX8_damageFromSets_160 (by decide) ?_
          refine lv_goto (tgt := 165) hx hb dX8_damageFromSets_161 (by decide) ?_
          exact J165 x1 x3 x4 x5 x6 x7 s0 (1 : Int32) H locs ls h hP hS (lv_sub hl [1, 2, 3, 4, 5, 6, 7, 0] rfl)
      have J109 : ∀ (x1 : Int32) (x3 : Int32) (x4 : Int32) (x5 : Int32) (x6 : Int32) (x7 : Int32) (x8 : Int32) (s0 : Int32) (H : Heap) (locs : List Loc) (ls : Array Slot), f_X8_damageFromSets_J109 (f_X8_damageFromSets_L58 μ j0 n58) μ j0 x1 x3 x4 x5 x6 x7 x8 s0 = some r → fw_P E o d μ H → va_S (fw_A E) s.heap H locs → lv_has ls 12 [(0, .ref (fw_ad E j0 0)), (1, .int x1), (3, .int x3), (4, .int x4), (5, .int x5), (6, .int x6), (7, .int x7), (8, .int x8)] → W p l e (headSpec (fw_ws yX8_damageFromSets cX8_damageFromSets 12 (some .int)) ({ frames := 2, cells := 0, slots := 0, locals := 47 } : Room)).room s m args below meth c H locs 0 0 (MQ below (fw_Q E o d (some (.int r)) μ) args s 0 0 (fw_A E)) (F0 m 109 ls [.int s0]) := by
        intro x1 x3 x4 x5 x6 x7 x8 s0 H locs ls h hP hS hl
        unfold f_X8_damageFromSets_J109 at h
        refine lv_istore (lv' := [(9, .int s0), (0, .ref (fw_ad E j0 0)), (1, .int x1), (3, .int x3), (4, .int x4), (5, .int x5), (6, .int x6), (7, .int x7), (8, .int x8)]) hx hb dX8_damageFromSets_109 hl (by decide) rfl (fun ls hl => ?_)
        refine lv_iload hx hb dX8_damageFromSets_111 (lv_at hl 6 rfl) ?_
        refine lv_iload hx hb dX8_damageFromSets_113 (lv_at hl 8 rfl) ?_
        obtain ⟨r12, hc12, h⟩ := fw_b1_e h
        refine fw_ret (va_runS (As := [.int x8]) (rest := [.int x6]) ⟨hx, hb, hml, hown, hU⟩ (k_J6_bitCount_0f7a4 l hE x8 hc12) (va_cwS 1 hU (fw_gS m_277 m_268 m_22 m_269) rfl rfl rfl (by decide +kernel) ⟨(Nat.le_of_ble_eq_true rfl), (Nat.le_of_ble_eq_true rfl)⟩) ⟨fw_blind, fun U hU9 hW9 => ⟨rfl, fw_pre hK hP hSt hS U hU9 hW9⟩⟩ rfl rfl hl.1 rfl (lv_room (Nat.le_of_ble_eq_true rfl)) dX8_damageFromSets_115 ⟨Nat.zero_le _, Nat.zero_le _⟩) hS (fun H locs hP hS => ?_)
        refine lv_iconst (v := (3 : Int32)) hx hb dX8_damageFromSets_118 (by decide) ?_
        refine lv_iload hx hb dX8_damageFromSets_119 (lv_at hl 0 rfl) ?_
        obtain ⟨r13, hc13, h⟩ := fw_b1_e h
        refine fw_ret (va_runS (As := [.int s0]) (rest := [.int (3 : Int32), .int r12, .int x6]) ⟨hx, hb, hml, hown, hU⟩ (k_J6_bitCount_0f7a4 l hE s0 hc13) (va_cwS 1 hU (fw_gS m_277 m_268 m_22 m_269) rfl rfl rfl (by decide +kernel) ⟨(Nat.le_of_ble_eq_true rfl), (Nat.le_of_ble_eq_true rfl)⟩) ⟨fw_blind, fun U hU9 hW9 => ⟨rfl, fw_pre hK hP hSt hS U hU9 hW9⟩⟩ rfl rfl hl.1 rfl (lv_room (Nat.le_of_ble_eq_true rfl)) dX8_damageFromSets_121 ⟨Nat.zero_le _, Nat.zero_le _⟩) hS (fun H locs hP hS => ?_)
        refine lv_imul hx hb dX8_damageFromSets_124 ?_
        refine lv_iadd hx hb dX8_damageFromSets_125 ?_
        refine lv_iadd hx hb dX8_damageFromSets_126 ?_
        refine lv_istore (lv' := [(6, .int (x6 + (r12 + ((3 : Int32) * r13)))), (9, .int s0), (0, .ref (fw_ad E j0 0)), (1, .int x1), (3, .int x3), (4, .int x4), (5, .int x5), (7, .int x7), (8, .int x8)]) hx hb dX8_damageFromSets_127 hl (by decide) rfl (fun ls hl => ?_)
        refine lv_iload hx hb dX8_damageFromSets_129 (lv_at hl 8 rfl) ?_
        refine lv_iload hx hb dX8_damageFromSets_131 (lv_at hl 1 rfl) ?_
        refine lv_ior hx hb dX8_damageFromSets_133 ?_
        refine lv_if_ne (tgt := 141) hx hb dX8_damageFromSets_134 (by decide) (fun c14 => ?_) (fun c14 => ?_)
        · rw [if_neg c14] at h
          refine lv_iconst (v := (0 : Int32)) hx hb dX8_damageFromSets_141 (by decide) ?_
          exact J142 x1 x3 x4 x5 (x6 + (r12 + ((3 : Int32) * r13))) x7 (0 : Int32) H locs ls h hP hS (lv_sub hl [2, 3, 4, 5, 6, 0, 7] rfl)
        · rw [if_pos c14] at h
          refine lv_iconst (v := (1 : Int32)) hx hb dX8_damageFromSets_137 (by decide) ?_
          refine lv_goto (tgt := 142) hx hb dX8_damageFromSets_138 (by decide) ?_
          exact J142 x1 x3 x4 x5 (x6 + (r12 + ((3 : Int32) * r13))) x7 (1 : Int32) H locs ls h hP hS (lv_sub hl [2, 3, 4, 5, 6, 0, 7] rfl)
      intro x1 x3 x4 x5 x6 x7 H locs ls h hP hS hl
      rw [f_X8_damageFromSets_L58] at h
      refine lv_iload hx hb dX8_damageFromSets_58 (lv_at hl 6 rfl) ?_
      refine lv_aload_n hx hb dX8_damageFromSets_60 rfl (lv_at hl 0 rfl) ?_
      refine va_get (D := fw_D E) (ci := 6) (v := .int (μ j0 0 6)) (C := RX7) (T := TX7) (N := 10) hx hb hU inU7 hown hK (fw_at hP (fw_Vs (f := 0) (by decide) hj0)) 0 rfl rfl 6 (by decide) (hU (Cond.fieldLink RX8 38 "LaundryService$State" "garmentCount" "I") m_67) (fun _ h9 => h9) rfl dX8_damageFromSets_61 ?_
      refine lv_icmp_ge (tgt := 204) hx hb dX8_damageFromSets_64 (by decide) (fun c7 => ?_) (fun c7 => ?_)
      · rw [if_pos c7] at h
        refine lv_iload hx hb dX8_damageFromSets_204 (lv_at hl 5 rfl) ?_
        exact W.iret (v := x6) hx hb hr (fw_er (mk := Value.int) h hP hS) hS.2.2 dX8_damageFromSets_206
      · rw [if_neg c7] at h
        refine lv_aload_n hx hb dX8_damageFromSets_67 rfl (lv_at hl 0 rfl) ?_
        refine lv_iload hx hb dX8_damageFromSets_68 (lv_at hl 6 rfl) ?_
        refine lv_iload_n hx hb dX8_damageFromSets_70 rfl (lv_at hl 1 rfl) ?_
        obtain ⟨r8, hc8, h⟩ := fw_b1_e h
        refine fw_ret (va_runV (As := [.int x7, .int x1]) (rest := []) ⟨hx, hb, hml, hown, hU⟩ (k_X7_isIn l hE hj0 x7 x1 hc8) (cwV 2 hU (fw_gV m_276 m_256 m_257 m_2 m_258) rfl rfl rfl (by decide +kernel) ⟨(Nat.le_of_ble_eq_true rfl), (Nat.le_of_ble_eq_true rfl)⟩) ⟨fw_blind, fw_recv hK hP (fw_Vs (f := 0) (by decide) hj0) rfl rfl, fun U hU9 hW9 => ⟨rfl, fw_pre hK hP hSt hS U hU9 hW9⟩⟩ rfl rfl hl.1 rfl (lv_room (Nat.le_of_ble_eq_true rfl)) dX8_damageFromSets_71 ⟨Nat.zero_le _, Nat.zero_le _⟩) hS (fun H locs hP hS => ?_)
        refine lv_if_eq (tgt := 198) hx hb dX8_damageFromSets_74 (by decide) (fun c9 => ?_) (fun c9 => ?_)
        · rw [if_pos c9] at h
          refine lv_iinc (v := (x7 + (1 : Int32))) (lv' := [(7, .int (x7 + (1 : Int32))), (0, .ref (fw_ad E j0 0)), (1, .int x1), (3, .int x3), (4, .int x4), (5, .int x5), (6, .int x6)]) hx hb dX8_damageFromSets_198 hl (k := 6) rfl rfl (by decide) rfl (fun ls hl => ?_)
          refine lv_goto (tgt := 58) hx hb dX8_damageFromSets_201 (by decide) ?_
          exact ih58 x1 x3 x4 x5 x6 (x7 + (1 : Int32)) H locs ls h hP hS (lv_sub hl [1, 2, 3, 4, 5, 6, 0] rfl)
        · rw [if_neg c9] at h
          refine lv_aload_n hx hb dX8_damageFromSets_77 rfl (lv_at hl 0 rfl) ?_
          refine va_get (D := fw_D E) (ci := 6) (v := .ref (fw_ad E j0 4)) (C := RX7) (T := TX7) (N := 10) hx hb hU inU7 hown hK (fw_at hP (fw_Vs (f := 0) (by decide) hj0)) 0 rfl rfl 3 (by decide) (hU (Cond.fieldLink RX8 56 "LaundryService$State" "stains" "[I") m_57) (fun _ h9 => h9) rfl dX8_damageFromSets_78 ?_
          refine lv_iload hx hb dX8_damageFromSets_81 (lv_at hl 6 rfl) ?_
          obtain ⟨g10, h⟩ := fw_g_e h
          refine va_iald (D := fw_D E) hx hb hK (fw_at hP (fw_Vs (f := 4) (by decide) hj0)) 0 0 rfl rfl (fw_in_e g10) dX8_damageFromSets_83 ?_
          refine lv_iload_n hx hb dX8_damageFromSets_84 rfl (lv_at hl 2 rfl) ?_
          refine lv_iand hx hb dX8_damageFromSets_85 ?_
          refine lv_istore (lv' := [(8, .int ((μ j0 4 x7.toNatClampNeg) &&& x3)), (0, .ref (fw_ad E j0 0)), (1, .int x1), (3, .int x3), (4, .int x4), (5, .int x5), (6, .int x6), (7, .int x7)]) hx hb dX8_damageFromSets_86 hl (by decide) rfl (fun ls hl => ?_)
          refine lv_aload_n hx hb dX8_damageFromSets_88 rfl (lv_at hl 1 rfl) ?_
          refine va_get (D := fw_D E) (ci := 6) (v := .ref (fw_ad E j0 3)) (C := RX7) (T := TX7) (N := 10) hx hb hU inU7 hown hK (fw_at hP (fw_Vs (f := 0) (by decide) hj0)) 0 rfl rfl 2 (by decide) (hU (Cond.fieldLink RX8 62 "LaundryService$State" "colours" "[I") m_54) (fun _ h9 => h9) rfl dX8_damageFromSets_89 ?_
          refine lv_iload hx hb dX8_damageFromSets_92 (lv_at hl 7 rfl) ?_
          refine va_iald (D := fw_D E) hx hb hK (fw_at hP (fw_Vs (f := 3) (by decide) hj0)) 0 0 rfl rfl (fw_in_e g10) dX8_damageFromSets_94 ?_
          refine lv_if_ne (tgt := 108) hx hb dX8_damageFromSets_95 (by decide) (fun c11 => ?_) (fun c11 => ?_)
          · rw [if_neg c11] at h
            refine lv_iconst (v := (0 : Int32)) hx hb dX8_damageFromSets_108 (by decide) ?_
            exact J109 x1 x3 x4 x5 x6 x7 ((μ j0 4 x7.toNatClampNeg) &&& x3) (0 : Int32) H locs ls h hP hS (lv_sub hl [1, 2, 3, 4, 5, 6, 7, 0] rfl)
          · rw [if_pos c11] at h
            refine lv_iload hx hb dX8_damageFromSets_98 (lv_at hl 4 rfl) ?_
            refine lv_iload hx hb dX8_damageFromSets_100 (lv_at hl 0 rfl) ?_
            refine lv_iconst (v := (-1 : Int32)) hx hb dX8_damageFromSets_102 (by decide) ?_
            refine lv_ixor hx hb dX8_damageFromSets_103 ?_
            refine lv_iand hx hb dX8_damageFromSets_104 ?_
            refine lv_goto (tgt := 109) hx hb dX8_damageFromSets_105 (by decide) ?_
            exact J109 x1 x3 x4 x5 x6 x7 ((μ j0 4 x7.toNatClampNeg) &&& x3) (x4 &&& (((μ j0 4 x7.toNatClampNeg) &&& x3) ^^^ (-1 : Int32))) H locs ls h hP hS (lv_sub hl [1, 2, 3, 4, 5, 6, 7, 0] rfl)
  have J28 : ∀ (x1 : Int32) (x3 : Int32) (s0 : Int32) (H : Heap) (locs : List Loc) (ls : Array Slot), f_X8_damageFromSets_J28 μ j0 x1 x3 s0 = some r → fw_P E o d μ H → va_S (fw_A E) s.heap H locs → lv_has ls 12 [(0, .ref (fw_ad E j0 0)), (1, .int x1), (3, .int x3)] → W p l e (headSpec (fw_ws yX8_damageFromSets cX8_damageFromSets 12 (some .int)) ({ frames := 2, cells := 0, slots := 0, locals := 47 } : Room)).room s m args below meth c H locs 0 0 (MQ below (fw_Q E o d (some (.int r)) μ) args s 0 0 (fw_A E)) (F0 m 28 ls [.int s0]) := by
    intro x1 x3 s0 H locs ls h hP hS hl
    unfold f_X8_damageFromSets_J28 at h
    refine lv_istore (lv' := [(4, .int s0), (0, .ref (fw_ad E j0 0)), (1, .int x1), (3, .int x3)]) hx hb dX8_damageFromSets_28 hl (by decide) rfl (fun ls hl => ?_)
    refine lv_aload_n hx hb dX8_damageFromSets_30 rfl (lv_at hl 1 rfl) ?_
    refine lv_iload_n hx hb dX8_damageFromSets_31 rfl (lv_at hl 2 rfl) ?_
    obtain ⟨r4, hc4, h⟩ := fw_b1_e h
    refine fw_ret (va_runV (As := [.int x1]) (rest := []) ⟨hx, hb, hml, hown, hU⟩ (k_X7_countIn l hE hj0 x1 hc4) (cwV 1 hU (fw_gV m_262 m_263 m_264 m_2 m_265) rfl rfl rfl (by decide +kernel) ⟨(Nat.le_of_ble_eq_true rfl), (Nat.le_of_ble_eq_true rfl)⟩) ⟨fw_blind, fw_recv hK hP (fw_Vs (f := 0) (by decide) hj0) rfl rfl, fun U hU9 hW9 => ⟨rfl, fw_pre hK hP hSt hS U hU9 hW9⟩⟩ rfl rfl hl.1 rfl (lv_room (Nat.le_of_ble_eq_true rfl)) dX8_damageFromSets_32 ⟨Nat.zero_le _, Nat.zero_le _⟩) hS (fun H locs hP hS => ?_)
    refine lv_iconst (v := (2 : Int32)) hx hb dX8_damageFromSets_35 (by decide) ?_
    refine lv_irem hx hb dX8_damageFromSets_36 (by decide) ?_
    refine lv_iconst (v := (1 : Int32)) hx hb dX8_damageFromSets_37 (by decide) ?_
    refine lv_icmp_ne (tgt := 49) hx hb dX8_damageFromSets_38 (by decide) (fun c5 => ?_) (fun c5 => ?_)
    · rw [if_neg c5] at h
      refine lv_iconst (v := (0 : Int32)) hx hb dX8_damageFromSets_49 (by decide) ?_
      refine lv_istore (lv' := [(5, .int (0 : Int32)), (4, .int s0), (0, .ref (fw_ad E j0 0)), (1, .int x1), (3, .int x3)]) hx hb dX8_damageFromSets_50 hl (by decide) rfl (fun ls hl => ?_)
      refine lv_iconst (v := (0 : Int32)) hx hb dX8_damageFromSets_52 (by decide) ?_
      refine lv_istore (lv' := [(6, .int (0 : Int32)), (5, .int (0 : Int32)), (4, .int s0), (0, .ref (fw_ad E j0 0)), (1, .int x1), (3, .int x3)]) hx hb dX8_damageFromSets_53 hl (by decide) rfl (fun ls hl => ?_)
      refine lv_iconst (v := (0 : Int32)) hx hb dX8_damageFromSets_55 (by decide) ?_
      refine lv_istore (lv' := [(7, .int (0 : Int32)), (6, .int (0 : Int32)), (5, .int (0 : Int32)), (4, .int s0), (0, .ref (fw_ad E j0 0)), (1, .int x1), (3, .int x3)]) hx hb dX8_damageFromSets_56 hl (by decide) rfl (fun ls hl => ?_)
      exact L58 1000 x1 x3 s0 (0 : Int32) (0 : Int32) (0 : Int32) H locs ls h hP hS (lv_sub hl [4, 5, 6, 3, 2, 1, 0] rfl)
    · rw [if_pos c5] at h
      refine lv_aload_n hx hb dX8_damageFromSets_41 rfl (lv_at hl 1 rfl) ?_
      refine lv_iload_n hx hb dX8_damageFromSets_42 rfl (lv_at hl 2 rfl) ?_
      obtain ⟨r6, hc6, h⟩ := fw_b1_e h
      refine fw_ret (va_runS (As := [.ref (fw_ad E j0 0), .int x1]) (rest := []) ⟨hx, hb, hml, hown, hU⟩ (k_X8_singleSockColours l hE hj0 x1 hc6) (va_cwS 2 hU (fw_gS m_273 m_274 m_23 m_275) rfl rfl rfl (by decide +kernel) ⟨(Nat.le_of_ble_eq_true rfl), (Nat.le_of_ble_eq_true rfl)⟩) ⟨fw_blind, fun U hU9 hW9 => ⟨rfl, fw_pre hK hP hSt hS U hU9 hW9⟩⟩ rfl rfl hl.1 rfl (lv_room (Nat.le_of_ble_eq_true rfl)) dX8_damageFromSets_43 ⟨Nat.zero_le _, Nat.zero_le _⟩) hS (fun H locs hP hS => ?_)
      refine lv_goto (tgt := 50) hx hb dX8_damageFromSets_46 (by decide) ?_
      refine lv_istore (lv' := [(5, .int r6), (4, .int s0), (0, .ref (fw_ad E j0 0)), (1, .int x1), (3, .int x3)]) hx hb dX8_damageFromSets_50 hl (by decide) rfl (fun ls hl => ?_)
      refine lv_iconst (v := (0 : Int32)) hx hb dX8_damageFromSets_52 (by decide) ?_
      refine lv_istore (lv' := [(6, .int (0 : Int32)), (5, .int r6), (4, .int s0), (0, .ref (fw_ad E j0 0)), (1, .int x1), (3, .int x3)]) hx hb dX8_damageFromSets_53 hl (by decide) rfl (fun ls hl => ?_)
      refine lv_iconst (v := (0 : Int32)) hx hb dX8_damageFromSets_55 (by decide) ?_
      refine lv_istore (lv' := [(7, .int (0 : Int32)), (6, .int (0 : Int32)), (5, .int r6), (4, .int s0), (0, .ref (fw_ad E j0 0)), (1, .int x1), (3, .int x3)]) hx hb dX8_damageFromSets_56 hl (by decide) rfl (fun ls hl => ?_)
      exact L58 1000 x1 x3 s0 r6 (0 : Int32) (0 : Int32) H locs ls h hP hS (lv_sub hl [4, 5, 6, 3, 2, 1, 0] rfl)
  have EN : ∀ (H : Heap) (locs : List Loc) (ls : Array Slot), fw_P E o d μ H → va_S (fw_A E) s.heap H locs → lv_has ls 12 [(0, .ref (fw_ad E j0 0)), (1, .int x1), (2, .int x2)] → W p l e (headSpec (fw_ws yX8_damageFromSets cX8_damageFromSets 12 (some .int)) ({ frames := 2, cells := 0, slots := 0, locals := 47 } : Room)).room s m args below meth c H locs 0 0 (MQ below (fw_Q E o d (some (.int r)) μ) args s 0 0 (fw_A E)) (F0 m 0 ls []) := by
    intro H locs ls hP hS hl
    unfold f_X8_damageFromSets at h
    refine lv_sipush (v := (255 : Int32)) hx hb dX8_damageFromSets_0 (by decide) ?_
    refine lv_iload_n hx hb dX8_damageFromSets_3 rfl (lv_at hl 2 rfl) ?_
    obtain ⟨r1, hc1, h⟩ := fw_b1_e h
    refine fw_ret (va_runS (As := [.int x2]) (rest := [.int (255 : Int32)]) ⟨hx, hb, hml, hown, hU⟩ (k_X8_removedAt l hE x2 hc1) (va_cwS 1 hU (fw_gS m_248 m_249 m_23 m_250) rfl rfl rfl (by decide +kernel) ⟨(Nat.le_of_ble_eq_true rfl), (Nat.le_of_ble_eq_true rfl)⟩) ⟨fw_blind, fun U hU9 hW9 => ⟨rfl, fw_pre hK hP hSt hS U hU9 hW9⟩⟩ rfl rfl hl.1 rfl (lv_room (Nat.le_of_ble_eq_true rfl)) dX8_damageFromSets_4 ⟨Nat.zero_le _, Nat.zero_le _⟩) hS (fun H locs hP hS => ?_)
    refine lv_iconst (v := (-1 : Int32)) hx hb dX8_damageFromSets_7 (by decide) ?_
    refine lv_ixor hx hb dX8_damageFromSets_8 ?_
    refine lv_iand hx hb dX8_damageFromSets_9 ?_
    refine lv_istore_n (lv' := [(3, .int ((255 : Int32) &&& (r1 ^^^ (-1 : Int32)))), (0, .ref (fw_ad E j0 0)), (1, .int x1), (2, .int x2)]) hx hb dX8_damageFromSets_10 rfl hl (by decide) rfl (fun ls hl => ?_)
    refine lv_iload_n hx hb dX8_damageFromSets_11 rfl (lv_at hl 3 rfl) ?_
    refine lv_bipush (v := (120 : Int32)) hx hb dX8_damageFromSets_12 (by decide) ?_
    refine lv_icmp_lt (tgt := 27) hx hb dX8_damageFromSets_14 (by decide) (fun c2 => ?_) (fun c2 => ?_)
    · rw [if_pos c2] at h
      refine lv_iconst (v := (0 : Int32)) hx hb dX8_damageFromSets_27 (by decide) ?_
      exact J28 x1 ((255 : Int32) &&& (r1 ^^^ (-1 : Int32))) (0 : Int32) H locs ls h hP hS (lv_sub hl [1, 2, 0] rfl)
    · rw [if_neg c2] at h
      refine lv_iconst (v := (1 : Int32)) hx hb dX8_damageFromSets_17 (by decide) ?_
      refine lv_aload_n hx hb dX8_damageFromSets_18 rfl (lv_at hl 1 rfl) ?_
      refine lv_iload_n hx hb dX8_damageFromSets_19 rfl (lv_at hl 2 rfl) ?_
      obtain ⟨r3, hc3, h⟩ := fw_b1_e h
      refine fw_ret (va_runV (As := [.int x1]) (rest := [.int (1 : Int32)]) ⟨hx, hb, hml, hown, hU⟩ (k_X7_greatestColourIn l hE hj0 x1 hc3) (cwV 1 hU (fw_gV m_251 m_252 m_253 m_2 m_254) rfl rfl rfl (by decide +kernel) ⟨(Nat.le_of_ble_eq_true rfl), (Nat.le_of_ble_eq_true rfl)⟩) ⟨fw_blind, fw_recv hK hP (fw_Vs (f := 0) (by decide) hj0) rfl rfl, fun U hU9 hW9 => ⟨rfl, fw_pre hK hP hSt hS U hU9 hW9⟩⟩ rfl rfl hl.1 rfl (lv_room (Nat.le_of_ble_eq_true rfl)) dX8_damageFromSets_20 ⟨Nat.zero_le _, Nat.zero_le _⟩) hS (fun H locs hP hS => ?_)
      refine lv_ishl hx hb dX8_damageFromSets_23 ?_
      refine lv_goto (tgt := 28) hx hb dX8_damageFromSets_24 (by decide) ?_
      exact J28 x1 ((255 : Int32) &&& (r1 ^^^ (-1 : Int32))) ((1 : Int32) <<< (r3 &&& (31 : Int32))) H locs ls h hP hS (lv_sub hl [1, 2, 0] rfl)
  subst ha
  have hl := lv_entry ([.ref (fw_ad E j0 0), .int x1, .int x2]) (n := 12) (Nat.le_of_ble_eq_true rfl)
  rw [lg_entry_eq]
  generalize (lg_sl ([.ref (fw_ad E j0 0), .int x1, .int x2]) ++ List.replicate (12 - (lg_sl ([.ref (fw_ad E j0 0), .int x1, .int x2])).length) Slot.unset).toArray = ls at hl ⊢
  exact EN s.heap [] ls hP va_S.rf hl
set_option maxHeartbeats 4000000 in
set_option maxRecDepth 100000 in
theorem k_X8_leastHarmfulHalves (l : Launch) {E : fw_E} {o : Int64} {d : UInt64} (hE : fw_ok E) {μ : fw_M} {j0 : Nat} (hj0 : j0 < 12) (x1 : Int32) {r : Int32} (h : f_X8_leastHarmfulHalves μ j0 x1 = some r) : Met l yX8_leastHarmfulHalves (fw_ws yX8_leastHarmfulHalves cX8_leastHarmfulHalves 6 (some .int)) ({ frames := 3, cells := 0, slots := 0, locals := 78 } : Room) (va_Pc [.ref (fw_ad E j0 0), .int x1] (fw_Pre E o d μ)) (fw_Q E o d (some (.int r)) μ) 0 0 (fw_A E) := by
  refine Met.ofW (cc := cX8_leastHarmfulHalves) (maxL := 6) (ret := (some .int)) (by decide) rfl ?_
  intro p e s m args below meth c s₁ B hml hv
  obtain ⟨ha, hK, hP, hSt⟩ := hv
  have hx := B.exec
  have hb := B.bytes
  have hr := B.returns
  have hts := atoms_spec (ws := fw_ws yX8_leastHarmfulHalves cX8_leastHarmfulHalves 6 (some .int)) B.pre
  have hU : ∀ w ∈ fw_U, w.before args s = true := fun w hw => hts w (List.mem_cons_of_mem _ hw)
  have hown : s.vm.findClass RX8 = some m.cls := findClass_of_methodNamed B.named
  have hlocks := B.notSynchronized
  have L14 : ∀ (n : Nat) (x1 : Int32) (x2 : Int32) (x3 : Int32) (x4 : Int32) (H : Heap) (locs : List Loc) (ls : Array Slot), f_X8_leastHarmfulHalves_L14 μ j0 n x1 x2 x3 x4 = some r → fw_P E o d μ H → va_S (fw_A E) s.heap H locs → lv_has ls 6 [(0, .ref (fw_ad E j0 0)), (1, .int x1), (2, .int x2), (3, .int x3), (4, .int x4)] → W p l e (headSpec (fw_ws yX8_leastHarmfulHalves cX8_leastHarmfulHalves 6 (some .int)) ({ frames := 3, cells := 0, slots := 0, locals := 78 } : Room)).room s m args below meth c H locs 0 0 (MQ below (fw_Q E o d (some (.int r)) μ) args s 0 0 (fw_A E)) (F0 m 14 ls []) := by
    intro n14
    induction n14 with
    | zero => intro x1 x2 x3 x4 H locs ls h; rw [f_X8_leastHarmfulHalves_L14] at h; cases h
    | succ n14 ih14 =>
      intro x1 x2 x3 x4 H locs ls h hP hS hl
      rw [f_X8_leastHarmfulHalves_L14] at h
      refine lv_iload hx hb dX8_leastHarmfulHalves_14 (lv_at hl 4 rfl) ?_
      refine lv_bipush (v := (120 : Int32)) hx hb dX8_leastHarmfulHalves_16 (by decide) ?_
      refine lv_icmp_gt (tgt := 48) hx hb dX8_leastHarmfulHalves_18 (by decide) (fun c2 => ?_) (fun c2 => ?_)
      · rw [if_pos c2] at h
        refine lv_iload_n hx hb dX8_leastHarmfulHalves_48 rfl (lv_at hl 2 rfl) ?_
        exact W.iret (v := x2) hx hb hr (fw_er (mk := Value.int) h hP hS) hS.2.2 dX8_leastHarmfulHalves_49
      · rw [if_neg c2] at h
        refine lv_aload_n hx hb dX8_leastHarmfulHalves_21 rfl (lv_at hl 0 rfl) ?_
        refine lv_iload_n hx hb dX8_leastHarmfulHalves_22 rfl (lv_at hl 1 rfl) ?_
        refine lv_iload hx hb dX8_leastHarmfulHalves_23 (lv_at hl 4 rfl) ?_
        obtain ⟨r3, hc3, h⟩ := fw_b1_e h
        refine fw_ret (va_runS (As := [.ref (fw_ad E j0 0), .int x1, .int x4]) (rest := []) ⟨hx, hb, hml, hown, hU⟩ (k_X8_damageFromSets l hE hj0 x1 x4 hc3) (va_cwS 3 hU (fw_gS m_819 m_246 m_23 m_247) rfl rfl rfl (by decide +kernel) ⟨(Nat.le_of_ble_eq_true rfl), (Nat.le_of_ble_eq_true rfl)⟩) ⟨fw_blind, fun U hU9 hW9 => ⟨rfl, fw_pre hK hP hSt hS U hU9 hW9⟩⟩ rfl rfl hl.1 rfl (lv_room (Nat.le_of_ble_eq_true rfl)) dX8_leastHarmfulHalves_25 ⟨Nat.zero_le _, Nat.zero_le _⟩) hS (fun H locs hP hS => ?_)
        refine lv_istore (lv' := [(5, .int r3), (0, .ref (fw_ad E j0 0)), (1, .int x1), (2, .int x2), (3, .int x3), (4, .int x4)]) hx hb dX8_leastHarmfulHalves_28 hl (by decide) rfl (fun ls hl => ?_)
        refine lv_iload hx hb dX8_leastHarmfulHalves_30 (lv_at hl 0 rfl) ?_
        refine lv_iload_n hx hb dX8_leastHarmfulHalves_32 rfl (lv_at hl 4 rfl) ?_
        refine lv_icmp_ge (tgt := 42) hx hb dX8_leastHarmfulHalves_33 (by decide) (fun c4 => ?_) (fun c4 => ?_)
        · rw [if_pos c4] at h
          refine lv_iinc (v := (x4 + (10 : Int32))) (lv' := [(4, .int (x4 + (10 : Int32))), (5, .int r3), (0, .ref (fw_ad E j0 0)), (1, .int x1), (2, .int x2), (3, .int x3)]) hx hb dX8_leastHarmfulHalves_42 hl (k := 5) rfl rfl (by decide) rfl (fun ls hl => ?_)
          refine lv_goto (tgt := 14) hx hb dX8_leastHarmfulHalves_45 (by decide) ?_
          exact ih14 x1 x2 x3 (x4 + (10 : Int32)) H locs ls h hP hS (lv_sub hl [2, 3, 4, 5, 0] rfl)
        · rw [if_neg c4] at h
          refine lv_iload hx hb dX8_leastHarmfulHalves_36 (lv_at hl 0 rfl) ?_
          refine lv_istore_n (lv' := [(3, .int r3), (5, .int r3), (0, .ref (fw_ad E j0 0)), (1, .int x1), (2, .int x2), (4, .int x4)]) hx hb dX8_leastHarmfulHalves_38 rfl hl (by decide) rfl (fun ls hl => ?_)
          refine lv_iload hx hb dX8_leastHarmfulHalves_39 (lv_at hl 5 rfl) ?_
          refine lv_istore_n (lv' := [(2, .int x4), (3, .int r3), (5, .int r3), (0, .ref (fw_ad E j0 0)), (1, .int x1), (4, .int x4)]) hx hb dX8_leastHarmfulHalves_41 rfl hl (by decide) rfl (fun ls hl => ?_)
          refine lv_iinc (v := (x4 + (10 : Int32))) (lv' := [(4, .int (x4 + (10 : Int32))), (2, .int x4), (3, .int r3), (5, .int r3), (0, .ref (fw_ad E j0 0)), (1, .int x1)]) hx hb dX8_leastHarmfulHalves_42 hl (k := 5) rfl rfl (by decide) rfl (fun ls hl => ?_)
          refine lv_goto (tgt := 14) hx hb dX8_leastHarmfulHalves_45 (by decide) ?_
          exact ih14 x1 x4 r3 (x4 + (10 : Int32)) H locs ls h hP hS (lv_sub hl [4, 5, 1, 2, 0] rfl)
  have EN : ∀ (H : Heap) (locs : List Loc) (ls : Array Slot), fw_P E o d μ H → va_S (fw_A E) s.heap H locs → lv_has ls 6 [(0, .ref (fw_ad E j0 0)), (1, .int x1)] → W p l e (headSpec (fw_ws yX8_leastHarmfulHalves cX8_leastHarmfulHalves 6 (some .int)) ({ frames := 3, cells := 0, slots := 0, locals := 78 } : Room)).room s m args below meth c H locs 0 0 (MQ below (fw_Q E o d (some (.int r)) μ) args s 0 0 (fw_A E)) (F0 m 0 ls []) := by
    intro H locs ls hP hS hl
    unfold f_X8_leastHarmfulHalves at h
    refine lv_bipush (v := (40 : Int32)) hx hb dX8_leastHarmfulHalves_0 (by decide) ?_
    refine lv_istore_n (lv' := [(2, .int (40 : Int32)), (0, .ref (fw_ad E j0 0)), (1, .int x1)]) hx hb dX8_leastHarmfulHalves_2 rfl hl (by decide) rfl (fun ls hl => ?_)
    refine lv_aload_n hx hb dX8_leastHarmfulHalves_3 rfl (lv_at hl 1 rfl) ?_
    refine lv_iload_n hx hb dX8_leastHarmfulHalves_4 rfl (lv_at hl 2 rfl) ?_
    refine lv_iload_n hx hb dX8_leastHarmfulHalves_5 rfl (lv_at hl 0 rfl) ?_
    obtain ⟨r1, hc1, h⟩ := fw_b1_e h
    refine fw_ret (va_runS (As := [.ref (fw_ad E j0 0), .int x1, .int (40 : Int32)]) (rest := []) ⟨hx, hb, hml, hown, hU⟩ (k_X8_damageFromSets l hE hj0 x1 (40 : Int32) hc1) (va_cwS 3 hU (fw_gS m_819 m_246 m_23 m_247) rfl rfl rfl (by decide +kernel) ⟨(Nat.le_of_ble_eq_true rfl), (Nat.le_of_ble_eq_true rfl)⟩) ⟨fw_blind, fun U hU9 hW9 => ⟨rfl, fw_pre hK hP hSt hS U hU9 hW9⟩⟩ rfl rfl hl.1 rfl (lv_room (Nat.le_of_ble_eq_true rfl)) dX8_leastHarmfulHalves_6 ⟨Nat.zero_le _, Nat.zero_le _⟩) hS (fun H locs hP hS => ?_)
    refine lv_istore_n (lv' := [(3, .int r1), (2, .int (40 : Int32)), (0, .ref (fw_ad E j0 0)), (1, .int x1)]) hx hb dX8_leastHarmfulHalves_9 rfl hl (by decide) rfl (fun ls hl => ?_)
    refine lv_bipush (v := (50 : Int32)) hx hb dX8_leastHarmfulHalves_10 (by decide) ?_
    refine lv_istore (lv' := [(4, .int (50 : Int32)), (3, .int r1), (2, .int (40 : Int32)), (0, .ref (fw_ad E j0 0)), (1, .int x1)]) hx hb dX8_leastHarmfulHalves_12 hl (by decide) rfl (fun ls hl => ?_)
    exact L14 1000 x1 (40 : Int32) r1 (50 : Int32) H locs ls h hP hS (lv_sub hl [3, 4, 2, 1, 0] rfl)
  subst ha
  have hl := lv_entry ([.ref (fw_ad E j0 0), .int x1]) (n := 6) (Nat.le_of_ble_eq_true rfl)
  rw [lg_entry_eq]
  generalize (lg_sl ([.ref (fw_ad E j0 0), .int x1]) ++ List.replicate (6 - (lg_sl ([.ref (fw_ad E j0 0), .int x1])).length) Slot.unset).toArray = ls at hl ⊢
  exact EN s.heap [] ls hP va_S.rf hl
