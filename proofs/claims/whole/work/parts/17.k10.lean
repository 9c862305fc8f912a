/-! contracts, laid by wip/whole/lay.py out of the bytecode listing -/
set_option maxHeartbeats 4000000 in
set_option maxRecDepth 100000 in
theorem k_X10_thrown (l : Launch) {E : fw_E} {o : Int64} {d : UInt64} (hE : fw_ok E) {μ : fw_M} {r : Int32} (h : f_X10_thrown μ = some r) : Met l yX10_thrown (fw_ws yX10_thrown cX10_thrown 1 (some .int)) ({ frames := 0, cells := 0, slots := 0, locals := 0 } : Room) (va_Pc [.ref (fw_ad E 0 18)] (fw_Pre E o d μ)) (fw_Q E o d (some (.int r)) μ) 0 0 (fw_A E) := by
  refine Met.ofW (cc := cX10_thrown) (maxL := 1) (ret := (some .int)) (by decide) rfl ?_
  intro p e s m args below meth c s₁ B hml hv
  obtain ⟨ha, hK, hP, hSt⟩ := hv
  have hx := B.exec
  have hb := B.bytes
  have hr := B.returns
  have hts := atoms_spec (ws := fw_ws yX10_thrown cX10_thrown 1 (some .int)) B.pre
  have hU : ∀ w ∈ fw_U, w.before args s = true := fun w hw => hts w (List.mem_cons_of_mem _ hw)
  have hown : s.vm.findClass RX10 = some m.cls := findClass_of_methodNamed B.named
  have hlocks := B.notSynchronized
  have EN : ∀ (H : Heap) (locs : List Loc) (ls : Array Slot), fw_P E o d μ H → va_S (fw_A E) s.heap H locs → lv_has ls 1 [(0, .ref (fw_ad E 0 18))] → W p l e (headSpec (fw_ws yX10_thrown cX10_thrown 1 (some .int)) ({ frames := 0, cells := 0, slots := 0, locals := 0 } : Room)).room s m args below meth c H locs 0 0 (MQ below (fw_Q E o d (some (.int r)) μ) args s 0 0 (fw_A E)) (F0 m 0 ls []) := by
    intro H locs ls hP hS hl
    unfold f_X10_thrown at h
    refine lv_aload_n hx hb dX10_thrown_0 rfl (lv_at hl 0 rfl) ?_
    refine va_get (D := fw_D E) (ci := 8) (v := .int (μ 0 18 0)) (C := RX10) (T := TX10) (N := 20) hx hb hU inU10 hown hK (fw_at hP (fw_V0 (f := 18) (by decide) (by decide))) 0 rfl rfl 0 (by decide) (hU (Cond.fieldLink RX10 41 "LaundryServiceModel" "thrown" "I") m_1117) (fun _ h9 => h9) rfl dX10_thrown_1 ?_
    exact W.iret (v := (μ 0 18 0)) hx hb hr (fw_er (mk := Value.int) h hP hS) hS.2.2 dX10_thrown_4
  subst ha
  have hl := lv_entry ([.ref (fw_ad E 0 18)]) (n := 1) (Nat.le_of_ble_eq_true rfl)
  rw [lg_entry_eq]
  generalize (lg_sl ([.ref (fw_ad E 0 18)]) ++ List.replicate (1 - (lg_sl ([.ref (fw_ad E 0 18)])).length) Slot.unset).toArray = ls at hl ⊢
  exact EN s.heap [] ls hP va_S.rf hl
set_option maxHeartbeats 4000000 in
set_option maxRecDepth 100000 in
theorem k_X10_fails (l : Launch) {E : fw_E} {o : Int64} {d : UInt64} (hE : fw_ok E) {μ μ' : fw_M} (x1 : Int32) {r : Int32} (h : f_X10_fails μ x1 = some (μ', r)) : Met l yX10_fails (fw_ws yX10_fails cX10_fails 2 (some .int)) ({ frames := 0, cells := 0, slots := 0, locals := 0 } : Room) (va_Pc [.ref (fw_ad E 0 18), .int x1] (fw_Pre E o d μ)) (fw_Q E o d (some (.int r)) μ') 0 0 (fw_A E) := by
  refine Met.ofW (cc := cX10_fails) (maxL := 2) (ret := (some .int)) (by decide) rfl ?_
  intro p e s m args below meth c s₁ B hml hv
  obtain ⟨ha, hK, hP, hSt⟩ := hv
  have hx := B.exec
  have hb := B.bytes
  have hr := B.returns
  have hts := atoms_spec (ws := fw_ws yX10_fails cX10_fails 2 (some .int)) B.pre
  have hU : ∀ w ∈ fw_U, w.before args s = true := fun w hw => hts w (List.mem_cons_of_mem _ hw)
  have hown : s.vm.findClass RX10 = some m.cls := findClass_of_methodNamed B.named
  have hlocks := B.notSynchronized
  have EN : ∀ (H : Heap) (locs : List Loc) (ls : Array Slot), fw_P E o d μ H → va_S (fw_A E) s.heap H locs → lv_has ls 2 [(0, .ref (fw_ad E 0 18)), (1, .int x1)] → W p l e (headSpec (fw_ws yX10_fails cX10_fails 2 (some .int)) ({ frames := 0, cells := 0, slots := 0, locals := 0 } : Room)).room s m args below meth c H locs 0 0 (MQ below (fw_Q E o d (some (.int r)) μ') args s 0 0 (fw_A E)) (F0 m 0 ls []) := by
    intro H locs ls hP hS hl
    unfold f_X10_fails at h
    refine lv_aload_n hx hb dX10_fails_0 rfl (lv_at hl 0 rfl) ?_
    refine lv_iload_n hx hb dX10_fails_1 rfl (lv_at hl 1 rfl) ?_
    refine fw_put (ci := 8) (v := .int x1) (ty := .int) (C := RX10) (T := TX10) (N := 20) hx hb hU inU10 tyX10 tyX10_ok nmX10 hown hK hP hE hS (fw_V0 (f := 18) (by decide) (by decide)) rfl rfl 0 (by decide) (hU (Cond.fieldLink RX10 41 "LaundryServiceModel" "thrown" "I") m_1117) (fun _ h9 => h9) rfl (by decide +kernel) rfl rfl (Nat.le_of_ble_eq_true rfl) 0 x1 (by rw [fw_u_c]; rfl) dX10_fails_2 (fun H locs hP hS => ?_)
    obtain ⟨μ1, eμ1, h⟩ := fw_l_e h
    rw [← eμ1] at hP
    refine lv_iconst (v := (0 : Int32)) hx hb dX10_fails_5 (by decide) ?_
    exact W.iret (v := (0 : Int32)) hx hb hr (fw_ew (mk := Value.int) h hP hS) hS.2.2 dX10_fails_6
  subst ha
  have hl := lv_entry ([.ref (fw_ad E 0 18), .int x1]) (n := 2) (Nat.le_of_ble_eq_true rfl)
  rw [lg_entry_eq]
  generalize (lg_sl ([.ref (fw_ad E 0 18), .int x1]) ++ List.replicate (2 - (lg_sl ([.ref (fw_ad E 0 18), .int x1])).length) Slot.unset).toArray = ls at hl ⊢
  exact EN s.heap [] ls hP va_S.rf hl
set_option maxHeartbeats 4000000 in
set_option maxRecDepth 100000 in
theorem k_X10_in (l : Launch) {E : fw_E} {o : Int64} {d : UInt64} (hE : fw_ok E) {μ : fw_M} (x0 : Int32) (x1 : Int32) (x2 : Int32) {r : Int32} (h : f_X10_in μ x0 x1 x2 = some r) : Met l yX10_in (fw_ws yX10_in cX10_in 3 (some .boolean)) ({ frames := 0, cells := 0, slots := 0, locals := 0 } : Room) (va_Pc [.int x0, .int x1, .int x2] (fw_Pre E o d μ)) (fw_Q E o d (some (.int r)) μ) 0 0 (fw_A E) := by
  refine Met.ofW (cc := cX10_in) (maxL := 3) (ret := (some .boolean)) (by decide) rfl ?_
  intro p e s m args below meth c s₁ B hml hv
  obtain ⟨ha, hK, hP, hSt⟩ := hv
  have hx := B.exec
  have hb := B.bytes
  have hr := B.returns
  have hts := atoms_spec (ws := fw_ws yX10_in cX10_in 3 (some .boolean)) B.pre
  have hU : ∀ w ∈ fw_U, w.before args s = true := fun w hw => hts w (List.mem_cons_of_mem _ hw)
  have hown : s.vm.findClass RX10 = some m.cls := findClass_of_methodNamed B.named
  have hlocks := B.notSynchronized
  have EN : ∀ (H : Heap) (locs : List Loc) (ls : Array Slot), fw_P E o d μ H → va_S (fw_A E) s.heap H locs → lv_has ls 3 [(0, .int x0), (1, .int x1), (2, .int x2)] → W p l e (headSpec (fw_ws yX10_in cX10_in 3 (some .boolean)) ({ frames := 0, cells := 0, slots := 0, locals := 0 } : Room)).room s m args below meth c H locs 0 0 (MQ below (fw_Q E o d (some (.int r)) μ) args s 0 0 (fw_A E)) (F0 m 0 ls []) := by
    intro H locs ls hP hS hl
    unfold f_X10_in at h
    refine lv_iload_n hx hb dX10_in_0 rfl (lv_at hl 0 rfl) ?_
    refine lv_iload_n hx hb dX10_in_1 rfl (lv_at hl 1 rfl) ?_
    refine lv_icmp_lt (tgt := 14) hx hb dX10_in_2 (by decide) (fun c1 => ?_) (fun c1 => ?_)
    · rw [if_pos c1] at h
      refine lv_iconst (v := (0 : Int32)) hx hb dX10_in_14 (by decide) ?_
      exact W.zret (v := (0 : Int32)) hx hb hr rfl (fw_er (mk := Value.int) h hP hS) hS.2.2 dX10_in_15
    · rw [if_neg c1] at h
      refine lv_iload_n hx hb dX10_in_5 rfl (lv_at hl 0 rfl) ?_
      refine lv_iload_n hx hb dX10_in_6 rfl (lv_at hl 2 rfl) ?_
      refine lv_icmp_gt (tgt := 14) hx hb dX10_in_7 (by decide) (fun c2 => ?_) (fun c2 => ?_)
      · rw [if_pos c2] at h
        refine lv_iconst (v := (0 : Int32)) hx hb dX10_in_14 (by decide) ?_
        exact W.zret (v := (0 : Int32)) hx hb hr rfl (fw_er (mk := Value.int) h hP hS) hS.2.2 dX10_in_15
      · rw [if_neg c2] at h
        refine lv_iconst (v := (1 : Int32)) hx hb dX10_in_10 (by decide) ?_
        refine lv_goto (tgt := 15) hx hb dX10_in_11 (by decide) ?_
        exact W.zret (v := (1 : Int32)) hx hb hr rfl (fw_er (mk := Value.int) h hP hS) hS.2.2 dX10_in_15
  subst ha
  have hl := lv_entry ([.int x0, .int x1, .int x2]) (n := 3) (Nat.le_of_ble_eq_true rfl)
  rw [lg_entry_eq]
  generalize (lg_sl ([.int x0, .int x1, .int x2]) ++ List.replicate (3 - (lg_sl ([.int x0, .int x1, .int x2])).length) Slot.unset).toArray = ls at hl ⊢
  exact EN s.heap [] ls hP va_S.rf hl
set_option maxHeartbeats 4000000 in
set_option maxRecDepth 100000 in
theorem k_X10_remembers (l : Launch) {E : fw_E} {o : Int64} {d : UInt64} (hE : fw_ok E) {μ μ' : fw_M} {r : Unit} (h : f_X10_remembers μ = some (μ', r)) : Met l yX10_remembers (fw_ws yX10_remembers cX10_remembers 2 none) ({ frames := 0, cells := 0, slots := 0, locals := 0 } : Room) (va_Pc [.ref (fw_ad E 0 18)] (fw_Pre E o d μ)) (fw_Q E o d none μ') 0 0 (fw_A E) := by
  refine Met.ofW (cc := cX10_remembers) (maxL := 2) (ret := none) (by decide) rfl ?_
  intro p e s m args below meth c s₁ B hml hv
  obtain ⟨ha, hK, hP, hSt⟩ := hv
  have hx := B.exec
  have hb := B.bytes
  have hr := B.returns
  have hts := atoms_spec (ws := fw_ws yX10_remembers cX10_remembers 2 none) B.pre
  have hU : ∀ w ∈ fw_U, w.before args s = true := fun w hw => hts w (List.mem_cons_of_mem _ hw)
  have hown : s.vm.findClass RX10 = some m.cls := findClass_of_methodNamed B.named
  have hlocks := B.notSynchronized
  have L7 : ∀ (n : Nat) (μ : fw_M) (x1 : Int32) (H : Heap) (locs : List Loc) (ls : Array Slot), f_X10_remembers_L7 n μ x1 = some (μ', r) → fw_P E o d μ H → va_S (fw_A E) s.heap H locs → lv_has ls 2 [(0, .ref (fw_ad E 0 18)), (1, .int x1)] → W p l e (headSpec (fw_ws yX10_remembers cX10_remembers 2 none) ({ frames := 0, cells := 0, slots := 0, locals := 0 } : Room)).room s m args below meth c H locs 0 0 (MQ below (fw_Q E o d none μ') args s 0 0 (fw_A E)) (F0 m 7 ls []) := by
    intro n7
    induction n7 with
    | zero => intro μ x1 H locs ls h; rw [f_X10_remembers_L7] at h; cases h
    | succ n7 ih7 =>
      intro μ x1 H locs ls h hP hS hl
      rw [f_X10_remembers_L7] at h
      refine lv_iload_n hx hb dX10_remembers_7 rfl (lv_at hl 1 rfl) ?_
      refine lv_bipush (v := (104 : Int32)) hx hb dX10_remembers_8 (by decide) ?_
      refine lv_icmp_ge (tgt := 31) hx hb dX10_remembers_10 (by decide) (fun c2 => ?_) (fun c2 => ?_)
      · rw [if_pos c2] at h
        exact W.vret hx hb hr (fw_ev h hP hS) hS.2.2 dX10_remembers_31
      · rw [if_neg c2] at h
        refine lv_aload_n hx hb dX10_remembers_13 rfl (lv_at hl 0 rfl) ?_
        refine va_get (D := fw_D E) (ci := 8) (v := .ref (fw_ad E 0 20)) (C := RX10) (T := TX10) (N := 20) hx hb hU inU10 hown hK (fw_at hP (fw_V0 (f := 18) (by decide) (by decide))) 0 rfl rfl 2 (by decide) (hU (Cond.fieldLink RX10 13 "LaundryServiceModel" "frame" "[I") m_1119) (fun _ h9 => h9) rfl dX10_remembers_14 ?_
        refine lv_iload_n hx hb dX10_remembers_17 rfl (lv_at hl 1 rfl) ?_
        refine lv_aload_n hx hb dX10_remembers_18 rfl (lv_at hl 0 rfl) ?_
        refine va_get (D := fw_D E) (ci := 8) (v := .ref (fw_ad E 0 19)) (C := RX10) (T := TX10) (N := 20) hx hb hU inU10 hown hK (fw_at hP (fw_V0 (f := 18) (by decide) (by decide))) 0 rfl rfl 1 (by decide) (hU (Cond.fieldLink RX10 7 "LaundryServiceModel" "s" "[I") m_1118) (fun _ h9 => h9) rfl dX10_remembers_19 ?_
        refine lv_iload_n hx hb dX10_remembers_22 rfl (lv_at hl 1 rfl) ?_
        obtain ⟨g3, h⟩ := fw_g_e h
        refine va_iald (D := fw_D E) hx hb hK (fw_at hP (fw_V0 (f := 19) (by decide) (by decide))) 0 0 rfl rfl (fw_in_e g3) dX10_remembers_23 ?_
        refine fw_iast (n := 104) hx hb hK hP hE hS (fw_V0 (f := 20) (by decide) (by decide)) (fun _ => rfl) (fw_in_e g3) dX10_remembers_24 (fun H locs hP hS => ?_)
        obtain ⟨μ4, eμ4, h⟩ := fw_l_e h
        rw [← eμ4] at hP
        refine lv_iinc (v := (x1 + (1 : Int32))) (lv' := [(1, .int (x1 + (1 : Int32))), (0, .ref (fw_ad E 0 18))]) hx hb dX10_remembers_25 hl (k := 1) rfl rfl (by decide) rfl (fun ls hl => ?_)
        refine lv_goto (tgt := 7) hx hb dX10_remembers_28 (by decide) ?_
        exact ih7 μ4 (x1 + (1 : Int32)) H locs ls h hP hS (lv_sub hl [1, 0] rfl)
  have EN : ∀ (H : Heap) (locs : List Loc) (ls : Array Slot), fw_P E o d μ H → va_S (fw_A E) s.heap H locs → lv_has ls 2 [(0, .ref (fw_ad E 0 18))] → W p l e (headSpec (fw_ws yX10_remembers cX10_remembers 2 none) ({ frames := 0, cells := 0, slots := 0, locals := 0 } : Room)).room s m args below meth c H locs 0 0 (MQ below (fw_Q E o d none μ') args s 0 0 (fw_A E)) (F0 m 0 ls []) := by
    intro H locs ls hP hS hl
    unfold f_X10_remembers at h
    refine lv_aload_n hx hb dX10_remembers_0 rfl (lv_at hl 0 rfl) ?_
    refine lv_iconst (v := (0 : Int32)) hx hb dX10_remembers_1 (by decide) ?_
    refine fw_put (ci := 8) (v := .int (0 : Int32)) (ty := .int) (C := RX10) (T := TX10) (N := 20) hx hb hU inU10 tyX10 tyX10_ok nmX10 hown hK hP hE hS (fw_V0 (f := 18) (by decide) (by decide)) rfl rfl 0 (by decide) (hU (Cond.fieldLink RX10 41 "LaundryServiceModel" "thrown" "I") m_1117) (fun _ h9 => h9) rfl (by decide +kernel) rfl rfl (Nat.le_of_ble_eq_true rfl) 0 (0 : Int32) (by rw [fw_u_c]; rfl) dX10_remembers_2 (fun H locs hP hS => ?_)
    obtain ⟨μ1, eμ1, h⟩ := fw_l_e h
    rw [← eμ1] at hP
    refine lv_iconst (v := (0 : Int32)) hx hb dX10_remembers_5 (by decide) ?_
    refine lv_istore_n (lv' := [(1, .int (0 : Int32)), (0, .ref (fw_ad E 0 18))]) hx hb dX10_remembers_6 rfl hl (by decide) rfl (fun ls hl => ?_)
    exact L7 1000 μ1 (0 : Int32) H locs ls h hP hS (lv_sub hl [1, 0] rfl)
  subst ha
  have hl := lv_entry ([.ref (fw_ad E 0 18)]) (n := 2) (Nat.le_of_ble_eq_true rfl)
  rw [lg_entry_eq]
  generalize (lg_sl ([.ref (fw_ad E 0 18)]) ++ List.replicate (2 - (lg_sl ([.ref (fw_ad E 0 18)])).length) Slot.unset).toArray = ls at hl ⊢
  exact EN s.heap [] ls hP va_S.rf hl
set_option maxHeartbeats 4000000 in
set_option maxRecDepth 100000 in
theorem k_X10_changed (l : Launch) {E : fw_E} {o : Int64} {d : UInt64} (hE : fw_ok E) {μ μ' : fw_M} (x1 : Int32) {r : Int32} (h : f_X10_changed μ x1 = some (μ', r)) : Met l yX10_changed (fw_ws yX10_changed cX10_changed 3 (some .int)) ({ frames := 0, cells := 0, slots := 0, locals := 0 } : Room) (va_Pc [.ref (fw_ad E 0 18), .int x1] (fw_Pre E o d μ)) (fw_Q E o d (some (.int r)) μ') 0 0 (fw_A E) := by
  refine Met.ofW (cc := cX10_changed) (maxL := 3) (ret := (some .int)) (by decide) rfl ?_
  intro p e s m args below meth c s₁ B hml hv
  obtain ⟨ha, hK, hP, hSt⟩ := hv
  have hx := B.exec
  have hb := B.bytes
  have hr := B.returns
  have hts := atoms_spec (ws := fw_ws yX10_changed cX10_changed 3 (some .int)) B.pre
  have hU : ∀ w ∈ fw_U, w.before args s = true := fun w hw => hts w (List.mem_cons_of_mem _ hw)
  have hown : s.vm.findClass RX10 = some m.cls := findClass_of_methodNamed B.named
  have hlocks := B.notSynchronized
  have L54 : ∀ (n : Nat) (μ : fw_M) (x1 : Int32) (x2 : Int32) (H : Heap) (locs : List Loc) (ls : Array Slot), f_X10_changed_L54 n μ x1 x2 = some (μ', r) → fw_P E o d μ H → va_S (fw_A E) s.heap H locs → lv_has ls 3 [(0, .ref (fw_ad E 0 18)), (1, .int x1), (2, .int x2)] → W p l e (headSpec (fw_ws yX10_changed cX10_changed 3 (some .int)) ({ frames := 0, cells := 0, slots := 0, locals := 0 } : Room)).room s m args below meth c H locs 0 0 (MQ below (fw_Q E o d (some (.int r)) μ') args s 0 0 (fw_A E)) (F0 m 54 ls []) := by
    intro n54
    induction n54 with
    | zero => intro μ x1 x2 H locs ls h; rw [f_X10_changed_L54] at h; cases h
    | succ n54 ih54 =>
      intro μ x1 x2 H locs ls h hP hS hl
      rw [f_X10_changed_L54] at h
      refine lv_iload_n hx hb dX10_changed_54 rfl (lv_at hl 2 rfl) ?_
      refine lv_bipush (v := (104 : Int32)) hx hb dX10_changed_55 (by decide) ?_
      refine lv_icmp_ge (tgt := 88) hx hb dX10_changed_57 (by decide) (fun c7 => ?_) (fun c7 => ?_)
      · rw [if_pos c7] at h
        refine lv_iload_n hx hb dX10_changed_88 rfl (lv_at hl 1 rfl) ?_
        exact W.iret (v := x1) hx hb hr (fw_ew (mk := Value.int) h hP hS) hS.2.2 dX10_changed_89
      · rw [if_neg c7] at h
        refine lv_aload_n hx hb dX10_changed_60 rfl (lv_at hl 0 rfl) ?_
        refine va_get (D := fw_D E) (ci := 8) (v := .ref (fw_ad E 0 22)) (C := RX10) (T := TX10) (N := 20) hx hb hU inU10 hown hK (fw_at hP (fw_V0 (f := 18) (by decide) (by decide))) 0 rfl rfl 4 (by decide) (hU (Cond.fieldLink RX10 19 "LaundryServiceModel" "history" "[I") m_1121) (fun _ h9 => h9) rfl dX10_changed_61 ?_
        refine lv_bipush (v := (104 : Int32)) hx hb dX10_changed_64 (by decide) ?_
        refine lv_aload_n hx hb dX10_changed_66 rfl (lv_at hl 0 rfl) ?_
        refine va_get (D := fw_D E) (ci := 8) (v := .int (μ 0 18 5)) (C := RX10) (T := TX10) (N := 20) hx hb hU inU10 hown hK (fw_at hP (fw_V0 (f := 18) (by decide) (by decide))) 0 rfl rfl 5 (by decide) (hU (Cond.fieldLink RX10 44 "LaundryServiceModel" "kept" "I") m_1122) (fun _ h9 => h9) rfl dX10_changed_67 ?_
        refine lv_iconst (v := (1 : Int32)) hx hb dX10_changed_70 (by decide) ?_
        refine lv_isub hx hb dX10_changed_71 ?_
        refine lv_imul hx hb dX10_changed_72 ?_
        refine lv_iload_n hx hb dX10_changed_73 rfl (lv_at hl 2 rfl) ?_
        refine lv_iadd hx hb dX10_changed_74 ?_
        refine lv_aload_n hx hb dX10_changed_75 rfl (lv_at hl 0 rfl) ?_
        refine va_get (D := fw_D E) (ci := 8) (v := .ref (fw_ad E 0 20)) (C := RX10) (T := TX10) (N := 20) hx hb hU inU10 hown hK (fw_at hP (fw_V0 (f := 18) (by decide) (by decide))) 0 rfl rfl 2 (by decide) (hU (Cond.fieldLink RX10 13 "LaundryServiceModel" "frame" "[I") m_1119) (fun _ h9 => h9) rfl dX10_changed_76 ?_
        refine lv_iload_n hx hb dX10_changed_79 rfl (lv_at hl 2 rfl) ?_
        obtain ⟨g8, h⟩ := fw_g_e h
        refine va_iald (D := fw_D E) hx hb hK (fw_at hP (fw_V0 (f := 20) (by decide) (by decide))) 0 0 rfl rfl (fw_in_e g8) dX10_changed_80 ?_
        obtain ⟨g9, h⟩ := fw_g_e h
        refine fw_iast (n := 832) hx hb hK hP hE hS (fw_V0 (f := 22) (by decide) (by decide)) (fun _ => rfl) (fw_in_e g9) dX10_changed_81 (fun H locs hP hS => ?_)
        obtain ⟨μ10, eμ10, h⟩ := fw_l_e h
        rw [← eμ10] at hP
        refine lv_iinc (v := (x2 + (1 : Int32))) (lv' := [(2, .int (x2 + (1 : Int32))), (0, .ref (fw_ad E 0 18)), (1, .int x1)]) hx hb dX10_changed_82 hl (k := 2) rfl rfl (by decide) rfl (fun ls hl => ?_)
        refine lv_goto (tgt := 54) hx hb dX10_changed_85 (by decide) ?_
        exact ih54 μ10 x1 (x2 + (1 : Int32)) H locs ls h hP hS (lv_sub hl [1, 2, 0] rfl)
  have L11 : ∀ (n : Nat) (μ : fw_M) (x1 : Int32) (x2 : Int32) (H : Heap) (locs : List Loc) (ls : Array Slot), f_X10_changed_L11 n μ x1 x2 = some (μ', r) → fw_P E o d μ H → va_S (fw_A E) s.heap H locs → lv_has ls 3 [(0, .ref (fw_ad E 0 18)), (1, .int x1), (2, .int x2)] → W p l e (headSpec (fw_ws yX10_changed cX10_changed 3 (some .int)) ({ frames := 0, cells := 0, slots := 0, locals := 0 } : Room)).room s m args below meth c H locs 0 0 (MQ below (fw_Q E o d (some (.int r)) μ') args s 0 0 (fw_A E)) (F0 m 11 ls []) := by
    intro n11
    induction n11 with
    | zero => intro μ x1 x2 H locs ls h; rw [f_X10_changed_L11] at h; cases h
    | succ n11 ih11 =>
      intro μ x1 x2 H locs ls h hP hS hl
      rw [f_X10_changed_L11] at h
      refine lv_iload_n hx hb dX10_changed_11 rfl (lv_at hl 2 rfl) ?_
      refine lv_sipush (v := (728 : Int32)) hx hb dX10_changed_12 (by decide) ?_
      refine lv_icmp_ge (tgt := 39) hx hb dX10_changed_15 (by decide) (fun c3 => ?_) (fun c3 => ?_)
      · rw [if_pos c3] at h
        refine lv_goto (tgt := 52) hx hb dX10_changed_39 (by decide) ?_
        refine lv_iconst (v := (0 : Int32)) hx hb dX10_changed_52 (by decide) ?_
        refine lv_istore_n (lv' := [(2, .int (0 : Int32)), (0, .ref (fw_ad E 0 18)), (1, .int x1)]) hx hb dX10_changed_53 rfl hl (by decide) rfl (fun ls hl => ?_)
        exact L54 1000 μ x1 (0 : Int32) H locs ls h hP hS (lv_sub hl [1, 2, 0] rfl)
      · rw [if_neg c3] at h
        refine lv_aload_n hx hb dX10_changed_18 rfl (lv_at hl 0 rfl) ?_
        refine va_get (D := fw_D E) (ci := 8) (v := .ref (fw_ad E 0 22)) (C := RX10) (T := TX10) (N := 20) hx hb hU inU10 hown hK (fw_at hP (fw_V0 (f := 18) (by decide) (by decide))) 0 rfl rfl 4 (by decide) (hU (Cond.fieldLink RX10 19 "LaundryServiceModel" "history" "[I") m_1121) (fun _ h9 => h9) rfl dX10_changed_19 ?_
        refine lv_iload_n hx hb dX10_changed_22 rfl (lv_at hl 2 rfl) ?_
        refine lv_aload_n hx hb dX10_changed_23 rfl (lv_at hl 0 rfl) ?_
        refine va_get (D := fw_D E) (ci := 8) (v := .ref (fw_ad E 0 22)) (C := RX10) (T := TX10) (N := 20) hx hb hU inU10 hown hK (fw_at hP (fw_V0 (f := 18) (by decide) (by decide))) 0 rfl rfl 4 (by decide) (hU (Cond.fieldLink RX10 19 "LaundryServiceModel" "history" "[I") m_1121) (fun _ h9 => h9) rfl dX10_changed_24 ?_
        refine lv_iload_n hx hb dX10_changed_27 rfl (lv_at hl 2 rfl) ?_
        refine lv_bipush (v := (104 : Int32)) hx hb dX10_changed_28 (by decide) ?_
        refine lv_iadd hx hb dX10_changed_30 ?_
        obtain ⟨g4, h⟩ := fw_g_e h
        refine va_iald (D := fw_D E) hx hb hK (fw_at hP (fw_V0 (f := 22) (by decide) (by decide))) 0 0 rfl rfl (fw_in_e g4) dX10_changed_31 ?_
        obtain ⟨g5, h⟩ := fw_g_e h
        refine fw_iast (n := 832) hx hb hK hP hE hS (fw_V0 (f := 22) (by decide) (by decide)) (fun _ => rfl) (fw_in_e g5) dX10_changed_32 (fun H locs hP hS => ?_)
        obtain ⟨μ6, eμ6, h⟩ := fw_l_e h
        rw [← eμ6] at hP
        refine lv_iinc (v := (x2 + (1 : Int32))) (lv' := [(2, .int (x2 + (1 : Int32))), (0, .ref (fw_ad E 0 18)), (1, .int x1)]) hx hb dX10_changed_33 hl (k := 2) rfl rfl (by decide) rfl (fun ls hl => ?_)
        refine lv_goto (tgt := 11) hx hb dX10_changed_36 (by decide) ?_
        exact ih11 μ6 x1 (x2 + (1 : Int32)) H locs ls h hP hS (lv_sub hl [1, 2, 0] rfl)
  have EN : ∀ (H : Heap) (locs : List Loc) (ls : Array Slot), fw_P E o d μ H → va_S (fw_A E) s.heap H locs → lv_has ls 3 [(0, .ref (fw_ad E 0 18)), (1, .int x1)] → W p l e (headSpec (fw_ws yX10_changed cX10_changed 3 (some .int)) ({ frames := 0, cells := 0, slots := 0, locals := 0 } : Room)).room s m args below meth c H locs 0 0 (MQ below (fw_Q E o d (some (.int r)) μ') args s 0 0 (fw_A E)) (F0 m 0 ls []) := by
    intro H locs ls hP hS hl
    unfold f_X10_changed at h
    refine lv_aload_n hx hb dX10_changed_0 rfl (lv_at hl 0 rfl) ?_
    refine va_get (D := fw_D E) (ci := 8) (v := .int (μ 0 18 5)) (C := RX10) (T := TX10) (N := 20) hx hb hU inU10 hown hK (fw_at hP (fw_V0 (f := 18) (by decide) (by decide))) 0 rfl rfl 5 (by decide) (hU (Cond.fieldLink RX10 44 "LaundryServiceModel" "kept" "I") m_1122) (fun _ h9 => h9) rfl dX10_changed_1 ?_
    refine lv_bipush (v := (8 : Int32)) hx hb dX10_changed_4 (by decide) ?_
    refine lv_icmp_ne (tgt := 42) hx hb dX10_changed_6 (by decide) (fun c1 => ?_) (fun c1 => ?_)
    · rw [if_neg c1] at h
      refine lv_aload_n hx hb dX10_changed_42 rfl (lv_at hl 0 rfl) ?_
      refine lv_dup hx hb dX10_changed_43 rfl ?_
      refine va_get (D := fw_D E) (ci := 8) (v := .int (μ 0 18 5)) (C := RX10) (T := TX10) (N := 20) hx hb hU inU10 hown hK (fw_at hP (fw_V0 (f := 18) (by decide) (by decide))) 0 rfl rfl 5 (by decide) (hU (Cond.fieldLink RX10 44 "LaundryServiceModel" "kept" "I") m_1122) (fun _ h9 => h9) rfl dX10_changed_44 ?_
      refine lv_iconst (v := (1 : Int32)) hx hb dX10_changed_47 (by decide) ?_
      refine lv_iadd hx hb dX10_changed_48 ?_
      refine fw_put (ci := 8) (v := .int ((μ 0 18 5) + (1 : Int32))) (ty := .int) (C := RX10) (T := TX10) (N := 20) hx hb hU inU10 tyX10 tyX10_ok nmX10 hown hK hP hE hS (fw_V0 (f := 18) (by decide) (by decide)) rfl rfl 5 (by decide) (hU (Cond.fieldLink RX10 44 "LaundryServiceModel" "kept" "I") m_1122) (fun _ h9 => h9) rfl (by decide +kernel) rfl rfl (Nat.le_of_ble_eq_true rfl) 5 ((μ 0 18 5) + (1 : Int32)) (by rw [fw_u_c]; rfl) dX10_changed_49 (fun H locs hP hS => ?_)
      obtain ⟨μ2, eμ2, h⟩ := fw_l_e h
      rw [← eμ2] at hP
      refine lv_iconst (v := (0 : Int32)) hx hb dX10_changed_52 (by decide) ?_
      refine lv_istore_n (lv' := [(2, .int (0 : Int32)), (0, .ref (fw_ad E 0 18)), (1, .int x1)]) hx hb dX10_changed_53 rfl hl (by decide) rfl (fun ls hl => ?_)
      exact L54 1000 μ2 x1 (0 : Int32) H locs ls h hP hS (lv_sub hl [1, 2, 0] rfl)
    · rw [if_pos c1] at h
      refine lv_iconst (v := (0 : Int32)) hx hb dX10_changed_9 (by decide) ?_
      refine lv_istore_n (lv' := [(2, .int (0 : Int32)), (0, .ref (fw_ad E 0 18)), (1, .int x1)]) hx hb dX10_changed_10 rfl hl (by decide) rfl (fun ls hl => ?_)
      exact L11 1000 μ x1 (0 : Int32) H locs ls h hP hS (lv_sub hl [1, 2, 0] rfl)
  subst ha
  have hl := lv_entry ([.ref (fw_ad E 0 18), .int x1]) (n := 3) (Nat.le_of_ble_eq_true rfl)
  rw [lg_entry_eq]
  generalize (lg_sl ([.ref (fw_ad E 0 18), .int x1]) ++ List.replicate (3 - (lg_sl ([.ref (fw_ad E 0 18), .int x1])).length) Slot.unset).toArray = ls at hl ⊢
  exact EN s.heap [] ls hP va_S.rf hl
set_option maxHeartbeats 4000000 in
set_option maxRecDepth 100000 in
theorem k_X10_done (l : Launch) {E : fw_E} {o : Int64} {d : UInt64} (hE : fw_ok E) {μ μ' : fw_M} (x1 : Int32) {r : Int32} (h : f_X10_done μ x1 = some (μ', r)) : Met l yX10_done (fw_ws yX10_done cX10_done 2 (some .int)) ({ frames := 0, cells := 0, slots := 0, locals := 0 } : Room) (va_Pc [.ref (fw_ad E 0 18), .int x1] (fw_Pre E o d μ)) (fw_Q E o d (some (.int r)) μ') 0 0 (fw_A E) := by
  refine Met.ofW (cc := cX10_done) (maxL := 2) (ret := (some .int)) (by decide) rfl ?_
  intro p e s m args below meth c s₁ B hml hv
  obtain ⟨ha, hK, hP, hSt⟩ := hv
  have hx := B.exec
  have hb := B.bytes
  have hr := B.returns
  have hts := atoms_spec (ws := fw_ws yX10_done cX10_done 2 (some .int)) B.pre
  have hU : ∀ w ∈ fw_U, w.before args s = true := fun w hw => hts w (List.mem_cons_of_mem _ hw)
  have hown : s.vm.findClass RX10 = some m.cls := findClass_of_methodNamed B.named
  have hlocks := B.notSynchronized
  have EN : ∀ (H : Heap) (locs : List Loc) (ls : Array Slot), fw_P E o d μ H → va_S (fw_A E) s.heap H locs → lv_has ls 2 [(0, .ref (fw_ad E 0 18)), (1, .int x1)] → W p l e (headSpec (fw_ws yX10_done cX10_done 2 (some .int)) ({ frames := 0, cells := 0, slots := 0, locals := 0 } : Room)).room s m args below meth c H locs 0 0 (MQ below (fw_Q E o d (some (.int r)) μ') args s 0 0 (fw_A E)) (F0 m 0 ls []) := by
    intro H locs ls hP hS hl
    unfold f_X10_done at h
    refine lv_aload_n hx hb dX10_done_0 rfl (lv_at hl 0 rfl) ?_
    refine lv_iload_n hx hb dX10_done_1 rfl (lv_at hl 1 rfl) ?_
    refine fw_put (ci := 8) (v := .int x1) (ty := .int) (C := RX10) (T := TX10) (N := 20) hx hb hU inU10 tyX10 tyX10_ok nmX10 hown hK hP hE hS (fw_V0 (f := 18) (by decide) (by decide)) rfl rfl 15 (by decide) (hU (Cond.fieldLink RX10 47 "LaundryServiceModel" "answer" "I") m_1132) (fun _ h9 => h9) rfl (by decide +kernel) rfl rfl (Nat.le_of_ble_eq_true rfl) 15 x1 (by rw [fw_u_c]; rfl) dX10_done_2 (fun H locs hP hS => ?_)
    obtain ⟨μ1, eμ1, h⟩ := fw_l_e h
    rw [← eμ1] at hP
    refine lv_iconst (v := (0 : Int32)) hx hb dX10_done_5 (by decide) ?_
    exact W.iret (v := (0 : Int32)) hx hb hr (fw_ew (mk := Value.int) h hP hS) hS.2.2 dX10_done_6
  subst ha
  have hl := lv_entry ([.ref (fw_ad E 0 18), .int x1]) (n := 2) (Nat.le_of_ble_eq_true rfl)
  rw [lg_entry_eq]
  generalize (lg_sl ([.ref (fw_ad E 0 18), .int x1]) ++ List.replicate (2 - (lg_sl ([.ref (fw_ad E 0 18), .int x1])).length) Slot.unset).toArray = ls at hl ⊢
  exact EN s.heap [] ls hP va_S.rf hl
set_option maxHeartbeats 4000000 in
set_option maxRecDepth 100000 in
theorem k_X10_ends (l : Launch) {E : fw_E} {o : Int64} {d : UInt64} (hE : fw_ok E) {μ μ' : fw_M} (x1 : Int32) {r : Int32} (h : f_X10_ends μ x1 = some (μ', r)) : Met l yX10_ends (fw_ws yX10_ends cX10_ends 2 (some .int)) ({ frames := 1, cells := 0, slots := 0, locals := 22 } : Room) (va_Pc [.ref (fw_ad E 0 18), .int x1] (fw_Pre E o d μ)) (fw_Q E o d (some (.int r)) μ') 0 0 (fw_A E) := by
  refine Met.ofW (cc := cX10_ends) (maxL := 2) (ret := (some .int)) (by decide) rfl ?_
  intro p e s m args below meth c s₁ B hml hv
  obtain ⟨ha, hK, hP, hSt⟩ := hv
  have hx := B.exec
  have hb := B.bytes
  have hr := B.returns
  have hts := atoms_spec (ws := fw_ws yX10_ends cX10_ends 2 (some .int)) B.pre
  have hU : ∀ w ∈ fw_U, w.before args s = true := fun w hw => hts w (List.mem_cons_of_mem _ hw)
  have hown : s.vm.findClass RX10 = some m.cls := findClass_of_methodNamed B.named
  have hlocks := B.notSynchronized
  have EN : ∀ (H : Heap) (locs : List Loc) (ls : Array Slot), fw_P E o d μ H → va_S (fw_A E) s.heap H locs → lv_has ls 2 [(0, .ref (fw_ad E 0 18)), (1, .int x1)] → W p l e (headSpec (fw_ws yX10_ends cX10_ends 2 (some .int)) ({ frames := 1, cells := 0, slots := 0, locals := 22 } : Room)).room s m args below meth c H locs 0 0 (MQ below (fw_Q E o d (some (.int r)) μ') args s 0 0 (fw_A E)) (F0 m 0 ls []) := by
    intro H locs ls hP hS hl
    unfold f_X10_ends at h
    refine lv_iload_n hx hb dX10_ends_0 rfl (lv_at hl 1 rfl) ?_
    refine lv_if_ne (tgt := 15) hx hb dX10_ends_1 (by decide) (fun c1 => ?_) (fun c1 => ?_)
    · rw [if_neg c1] at h
      refine lv_aload_n hx hb dX10_ends_15 rfl (lv_at hl 0 rfl) ?_
      refine lv_iload_n hx hb dX10_ends_16 rfl (lv_at hl 1 rfl) ?_
      obtain ⟨μ3, r3, hc3, h⟩ := fw_b2_e h
      refine fw_ret (va_runV (As := [.int x1]) (rest := []) ⟨hx, hb, hml, hown, hU⟩ (k_X10_fails l hE x1 hc3) (cwV 1 hU (fw_gV m_1216 m_1218 ms_17 m_9 m_1219) rfl rfl rfl (by decide +kernel) ⟨(Nat.le_of_ble_eq_true rfl), (Nat.le_of_ble_eq_true rfl)⟩) ⟨fw_blind, fw_recv hK hP (fw_V0 (f := 18) (by decide) (by decide)) rfl rfl, fun U hU9 hW9 => ⟨rfl, fw_pre hK hP hSt hS U hU9 hW9⟩⟩ rfl rfl hl.1 rfl (lv_room (Nat.le_of_ble_eq_true rfl)) dX10_ends_17 ⟨Nat.zero_le _, Nat.zero_le _⟩) hS (fun H locs hP hS => ?_)
      exact W.iret (v := r3) hx hb hr (fw_ew (mk := Value.int) h hP hS) hS.2.2 dX10_ends_20
    · rw [if_pos c1] at h
      refine lv_aload_n hx hb dX10_ends_4 rfl (lv_at hl 0 rfl) ?_
      refine lv_aload_n hx hb dX10_ends_5 rfl (lv_at hl 0 rfl) ?_
      refine va_get (D := fw_D E) (ci := 8) (v := .int (μ 0 18 15)) (C := RX10) (T := TX10) (N := 20) hx hb hU inU10 hown hK (fw_at hP (fw_V0 (f := 18) (by decide) (by decide))) 0 rfl rfl 15 (by decide) (hU (Cond.fieldLink RX10 47 "LaundryServiceModel" "answer" "I") m_1132) (fun _ h9 => h9) rfl dX10_ends_6 ?_
      obtain ⟨μ2, r2, hc2, h⟩ := fw_b2_e h
      refine fw_ret (va_runV (As := [.int (μ 0 18 15)]) (rest := []) ⟨hx, hb, hml, hown, hU⟩ (k_X10_changed l hE (μ 0 18 15) hc2) (cwV 1 hU (fw_gV m_1212 m_1214 ms_16 m_9 m_1215) rfl rfl rfl (by decide +kernel) ⟨(Nat.le_of_ble_eq_true rfl), (Nat.le_of_ble_eq_true rfl)⟩) ⟨fw_blind, fw_recv hK hP (fw_V0 (f := 18) (by decide) (by decide)) rfl rfl, fun U hU9 hW9 => ⟨rfl, fw_pre hK hP hSt hS U hU9 hW9⟩⟩ rfl rfl hl.1 rfl (lv_room (Nat.le_of_ble_eq_true rfl)) dX10_ends_9 ⟨Nat.zero_le _, Nat.zero_le _⟩) hS (fun H locs hP hS => ?_)
      refine lv_goto (tgt := 20) hx hb dX10_ends_12 (by decide) ?_
      exact W.iret (v := r2) hx hb hr (fw_ew (mk := Value.int) h hP hS) hS.2.2 dX10_ends_20
  subst ha
  have hl := lv_entry ([.ref (fw_ad E 0 18), .int x1]) (n := 2) (Nat.le_of_ble_eq_true rfl)
  rw [lg_entry_eq]
  generalize (lg_sl ([.ref (fw_ad E 0 18), .int x1]) ++ List.replicate (2 - (lg_sl ([.ref (fw_ad E 0 18), .int x1])).length) Slot.unset).toArray = ls at hl ⊢
  exact EN s.heap [] ls hP va_S.rf hl
set_option maxHeartbeats 4000000 in
set_option maxRecDepth 100000 in
theorem k_X10_isGarment (l : Launch) {E : fw_E} {o : Int64} {d : UInt64} (hE : fw_ok E) {μ : fw_M} (x1 : Int32) {r : Int32} (h : f_X10_isGarment μ x1 = some r) : Met l yX10_isGarment (fw_ws yX10_isGarment cX10_isGarment 2 (some .boolean)) ({ frames := 1, cells := 0, slots := 0, locals := 22 } : Room) (va_Pc [.ref (fw_ad E 0 18), .int x1] (fw_Pre E o d μ)) (fw_Q E o d (some (.int r)) μ) 0 0 (fw_A E) := by
  refine Met.ofW (cc := cX10_isGarment) (maxL := 2) (ret := (some .boolean)) (by decide) rfl ?_
  intro p e s m args below meth c s₁ B hml hv
  obtain ⟨ha, hK, hP, hSt⟩ := hv
  have hx := B.exec
  have hb := B.bytes
  have hr := B.returns
  have hts := atoms_spec (ws := fw_ws yX10_isGarment cX10_isGarment 2 (some .boolean)) B.pre
  have hU : ∀ w ∈ fw_U, w.before args s = true := fun w hw => hts w (List.mem_cons_of_mem _ hw)
  have hown : s.vm.findClass RX10 = some m.cls := findClass_of_methodNamed B.named
  have hlocks := B.notSynchronized
  have EN : ∀ (H : Heap) (locs : List Loc) (ls : Array Slot), fw_P E o d μ H → va_S (fw_A E) s.heap H locs → lv_has ls 2 [(0, .ref (fw_ad E 0 18)), (1, .int x1)] → W p l e (headSpec (fw_ws yX10_isGarment cX10_isGarment 2 (some .boolean)) ({ frames := 1, cells := 0, slots := 0, locals := 22 } : Room)).room s m args below meth c H locs 0 0 (MQ below (fw_Q E o d (some (.int r)) μ) args s 0 0 (fw_A E)) (F0 m 0 ls []) := by
    intro H locs ls hP hS hl
    unfold f_X10_isGarment at h
    refine lv_iload_n hx hb dX10_isGarment_0 rfl (lv_at hl 1 rfl) ?_
    refine lv_iconst (v := (0 : Int32)) hx hb dX10_isGarment_1 (by decide) ?_
    refine lv_aload_n hx hb dX10_isGarment_2 rfl (lv_at hl 0 rfl) ?_
    refine va_get (D := fw_D E) (ci := 8) (v := .ref (fw_ad E 0 19)) (C := RX10) (T := TX10) (N := 20) hx hb hU inU10 hown hK (fw_at hP (fw_V0 (f := 18) (by decide) (by decide))) 0 rfl rfl 1 (by decide) (hU (Cond.fieldLink RX10 7 "LaundryServiceModel" "s" "[I") m_1118) (fun _ h9 => h9) rfl dX10_isGarment_3 ?_
    refine lv_iconst (v := (0 : Int32)) hx hb dX10_isGarment_6 (by decide) ?_
    refine va_iald (D := fw_D E) hx hb hK (fw_at hP (fw_V0 (f := 19) (by decide) (by decide))) 0 0 rfl rfl (fw_in_e (n := 104) (by decide)) dX10_isGarment_7 ?_
    refine lv_iconst (v := (1 : Int32)) hx hb dX10_isGarment_8 (by decide) ?_
    refine lv_isub hx hb dX10_isGarment_9 ?_
    obtain ⟨r1, hc1, h⟩ := fw_b1_e h
    refine fw_ret (va_runS (As := [.int x1, .int (0 : Int32), .int ((μ 0 19 (0 : Int32).toNatClampNeg) - (1 : Int32))]) (rest := []) ⟨hx, hb, hml, hown, hU⟩ (k_X10_in l hE x1 (0 : Int32) ((μ 0 19 (0 : Int32).toNatClampNeg) - (1 : Int32)) hc1) (va_cwS 3 hU (fw_gS m_1197 m_1198 m_9 m_1199) rfl rfl rfl (by decide +kernel) ⟨(Nat.le_of_ble_eq_true rfl), (Nat.le_of_ble_eq_true rfl)⟩) ⟨fw_blind, fun U hU9 hW9 => ⟨rfl, fw_pre hK hP hSt hS U hU9 hW9⟩⟩ rfl rfl hl.1 rfl (lv_room (Nat.le_of_ble_eq_true rfl)) dX10_isGarment_10 ⟨Nat.zero_le _, Nat.zero_le _⟩) hS (fun H locs hP hS => ?_)
    obtain ⟨g2, h⟩ := fw_g_e h
    exact W.zret (v := r1) hx hb hr (fw_bo_e g2) (fw_er (mk := Value.int) h hP hS) hS.2.2 dX10_isGarment_13
  subst ha
  have hl := lv_entry ([.ref (fw_ad E 0 18), .int x1]) (n := 2) (Nat.le_of_ble_eq_true rfl)
  rw [lg_entry_eq]
  generalize (lg_sl ([.ref (fw_ad E 0 18), .int x1]) ++ List.replicate (2 - (lg_sl ([.ref (fw_ad E 0 18), .int x1])).length) Slot.unset).toArray = ls at hl ⊢
  exact EN s.heap [] ls hP va_S.rf hl
set_option maxHeartbeats 4000000 in
set_option maxRecDepth 100000 in
theorem k_X10_isClient (l : Launch) {E : fw_E} {o : Int64} {d : UInt64} (hE : fw_ok E) {μ : fw_M} (x0 : Int32) {r : Int32} (h : f_X10_isClient μ x0 = some r) : Met l yX10_isClient (fw_ws yX10_isClient cX10_isClient 1 (some .boolean)) ({ frames := 1, cells := 0, slots := 0, locals := 22 } : Room) (va_Pc [.int x0] (fw_Pre E o d μ)) (fw_Q E o d (some (.int r)) μ) 0 0 (fw_A E) := by
  refine Met.ofW (cc := cX10_isClient) (maxL := 1) (ret := (some .boolean)) (by decide) rfl ?_
  intro p e s m args below meth c s₁ B hml hv
  obtain ⟨ha, hK, hP, hSt⟩ := hv
  have hx := B.exec
  have hb := B.bytes
  have hr := B.returns
  have hts := atoms_spec (ws := fw_ws yX10_isClient cX10_isClient 1 (some .boolean)) B.pre
  have hU : ∀ w ∈ fw_U, w.before args s = true := fun w hw => hts w (List.mem_cons_of_mem _ hw)
  have hown : s.vm.findClass RX10 = some m.cls := findClass_of_methodNamed B.named
  have hlocks := B.notSynchronized
  have EN : ∀ (H : Heap) (locs : List Loc) (ls : Array Slot), fw_P E o d μ H → va_S (fw_A E) s.heap H locs → lv_has ls 1 [(0, .int x0)] → W p l e (headSpec (fw_ws yX10_isClient cX10_isClient 1 (some .boolean)) ({ frames := 1, cells := 0, slots := 0, locals := 22 } : Room)).room s m args below meth c H locs 0 0 (MQ below (fw_Q E o d (some (.int r)) μ) args s 0 0 (fw_A E)) (F0 m 0 ls []) := by
    intro H locs ls hP hS hl
    unfold f_X10_isClient at h
    refine lv_iload_n hx hb dX10_isClient_0 rfl (lv_at hl 0 rfl) ?_
    refine lv_iconst (v := (0 : Int32)) hx hb dX10_isClient_1 (by decide) ?_
    refine lv_iconst (v := (3 : Int32)) hx hb dX10_isClient_2 (by decide) ?_
    obtain ⟨r1, hc1, h⟩ := fw_b1_e h
    refine fw_ret (va_runS (As := [.int x0, .int (0 : Int32), .int (3 : Int32)]) (rest := []) ⟨hx, hb, hml, hown, hU⟩ (k_X10_in l hE x0 (0 : Int32) (3 : Int32) hc1) (va_cwS 3 hU (fw_gS m_1197 m_1198 m_9 m_1199) rfl rfl rfl (by decide +kernel) ⟨(Nat.le_of_ble_eq_true rfl), (Nat.le_of_ble_eq_true rfl)⟩) ⟨fw_blind, fun U hU9 hW9 => ⟨rfl, fw_pre hK hP hSt hS U hU9 hW9⟩⟩ rfl rfl hl.1 rfl (lv_room (Nat.le_of_ble_eq_true rfl)) dX10_isClient_3 ⟨Nat.zero_le _, Nat.zero_le _⟩) hS (fun H locs hP hS => ?_)
    obtain ⟨g2, h⟩ := fw_g_e h
    exact W.zret (v := r1) hx hb hr (fw_bo_e g2) (fw_er (mk := Value.int) h hP hS) hS.2.2 dX10_isClient_6
  subst ha
  have hl := lv_entry ([.int x0]) (n := 1) (Nat.le_of_ble_eq_true rfl)
  rw [lg_entry_eq]
  generalize (lg_sl ([.int x0]) ++ List.replicate (1 - (lg_sl ([.int x0])).length) Slot.unset).toArray = ls at hl ⊢
  exact EN s.heap [] ls hP va_S.rf hl
set_option maxHeartbeats 4000000 in
set_option maxRecDepth 100000 in
theorem k_X10_isMachine (l : Launch) {E : fw_E} {o : Int64} {d : UInt64} (hE : fw_ok E) {μ : fw_M} (x0 : Int32) {r : Int32} (h : f_X10_isMachine μ x0 = some r) : Met l yX10_isMachine (fw_ws yX10_isMachine cX10_isMachine 1 (some .boolean)) ({ frames := 1, cells := 0, slots := 0, locals := 22 } : Room) (va_Pc [.int x0] (fw_Pre E o d μ)) (fw_Q E o d (some (.int r)) μ) 0 0 (fw_A E) := by
  refine Met.ofW (cc := cX10_isMachine) (maxL := 1) (ret := (some .boolean)) (by decide) rfl ?_
  intro p e s m args below meth c s₁ B hml hv
  obtain ⟨ha, hK, hP, hSt⟩ := hv
  have hx := B.exec
  have hb := B.bytes
  have hr := B.returns
  have hts := atoms_spec (ws := fw_ws yX10_isMachine cX10_isMachine 1 (some .boolean)) B.pre
  have hU : ∀ w ∈ fw_U, w.before args s = true := fun w hw => hts w (List.mem_cons_of_mem _ hw)
  have hown : s.vm.findClass RX10 = some m.cls := findClass_of_methodNamed B.named
  have hlocks := B.notSynchronized
  have EN : ∀ (H : Heap) (locs : List Loc) (ls : Array Slot), fw_P E o d μ H → va_S (fw_A E) s.heap H locs → lv_has ls 1 [(0, .int x0)] → W p l e (headSpec (fw_ws yX10_isMachine cX10_isMachine 1 (some .boolean)) ({ frames := 1, cells := 0, slots := 0, locals := 22 } : Room)).room s m args below meth c H locs 0 0 (MQ below (fw_Q E o d (some (.int r)) μ) args s 0 0 (fw_A E)) (F0 m 0 ls []) := by
    intro H locs ls hP hS hl
    unfold f_X10_isMachine at h
    refine lv_iload_n hx hb dX10_isMachine_0 rfl (lv_at hl 0 rfl) ?_
    refine lv_iconst (v := (0 : Int32)) hx hb dX10_isMachine_1 (by decide) ?_
    refine lv_iconst (v := (1 : Int32)) hx hb dX10_isMachine_2 (by decide) ?_
    obtain ⟨r1, hc1, h⟩ := fw_b1_e h
    refine fw_ret (va_runS (As := [.int x0, .int (0 : Int32), .int (1 : Int32)]) (rest := []) ⟨hx, hb, hml, hown, hU⟩ (k_X10_in l hE x0 (0 : Int32) (1 : Int32) hc1) (va_cwS 3 hU (fw_gS m_1197 m_1198 m_9 m_1199) rfl rfl rfl (by decide +kernel) ⟨(Nat.le_of_ble_eq_true rfl), (Nat.le_of_ble_eq_true rfl)⟩) ⟨fw_blind, fun U hU9 hW9 => ⟨rfl, fw_pre hK hP hSt hS U hU9 hW9⟩⟩ rfl rfl hl.1 rfl (lv_room (Nat.le_of_ble_eq_true rfl)) dX10_isMachine_3 ⟨Nat.zero_le _, Nat.zero_le _⟩) hS (fun H locs hP hS => ?_)
    obtain ⟨g2, h⟩ := fw_g_e h
    exact W.zret (v := r1) hx hb hr (fw_bo_e g2) (fw_er (mk := Value.int) h hP hS) hS.2.2 dX10_isMachine_6
  subst ha
  have hl := lv_entry ([.int x0]) (n := 1) (Nat.le_of_ble_eq_true rfl)
  rw [lg_entry_eq]
  generalize (lg_sl ([.int x0]) ++ List.replicate (1 - (lg_sl ([.int x0])).length) Slot.unset).toArray = ls at hl ⊢
  exact EN s.heap [] ls hP va_S.rf hl
set_option maxHeartbeats 4000000 in
set_option maxRecDepth 100000 in
theorem k_X10_of (l : Launch) {E : fw_E} {o : Int64} {d : UInt64} (hE : fw_ok E) {μ : fw_M} (x1 : Int32) (x2 : Int32) {r : Int32} (h : f_X10_of μ x1 x2 = some r) : Met l yX10_of (fw_ws yX10_of cX10_of 3 (some .int)) ({ frames := 0, cells := 0, slots := 0, locals := 0 } : Room) (va_Pc [.ref (fw_ad E 0 18), .int x1, .int x2] (fw_Pre E o d μ)) (fw_Q E o d (some (.int r)) μ) 0 0 (fw_A E) := by
  refine Met.ofW (cc := cX10_of) (maxL := 3) (ret := (some .int)) (by decide) rfl ?_
  intro p e s m args below meth c s₁ B hml hv
  obtain ⟨ha, hK, hP, hSt⟩ := hv
  have hx := B.exec
  have hb := B.bytes
  have hr := B.returns
  have hts := atoms_spec (ws := fw_ws yX10_of cX10_of 3 (some .int)) B.pre
  have hU : ∀ w ∈ fw_U, w.before args s = true := fun w hw => hts w (List.mem_cons_of_mem _ hw)
  have hown : s.vm.findClass RX10 = some m.cls := findClass_of_methodNamed B.named
  have hlocks := B.notSynchronized
  have EN : ∀ (H : Heap) (locs : List Loc) (ls : Array Slot), fw_P E o d μ H → va_S (fw_A E) s.heap H locs → lv_has ls 3 [(0, .ref (fw_ad E 0 18)), (1, .int x1), (2, .int x2)] → W p l e (headSpec (fw_ws yX10_of cX10_of 3 (some .int)) ({ frames := 0, cells := 0, slots := 0, locals := 0 } : Room)).room s m args below meth c H locs 0 0 (MQ below (fw_Q E o d (some (.int r)) μ) args s 0 0 (fw_A E)) (F0 m 0 ls []) := by
    intro H locs ls hP hS hl
    unfold f_X10_of at h
    refine lv_aload_n hx hb dX10_of_0 rfl (lv_at hl 0 rfl) ?_
    refine va_get (D := fw_D E) (ci := 8) (v := .ref (fw_ad E 0 19)) (C := RX10) (T := TX10) (N := 20) hx hb hU inU10 hown hK (fw_at hP (fw_V0 (f := 18) (by decide) (by decide))) 0 rfl rfl 1 (by decide) (hU (Cond.fieldLink RX10 7 "LaundryServiceModel" "s" "[I") m_1118) (fun _ h9 => h9) rfl dX10_of_1 ?_
    refine lv_iconst (v := (4 : Int32)) hx hb dX10_of_4 (by decide) ?_
    refine lv_bipush (v := (6 : Int32)) hx hb dX10_of_5 (by decide) ?_
    refine lv_iload_n hx hb dX10_of_7 rfl (lv_at hl 1 rfl) ?_
    refine lv_imul hx hb dX10_of_8 ?_
    refine lv_iadd hx hb dX10_of_9 ?_
    refine lv_iload_n hx hb dX10_of_10 rfl (lv_at hl 2 rfl) ?_
    refine lv_iadd hx hb dX10_of_11 ?_
    obtain ⟨g1, h⟩ := fw_g_e h
    refine va_iald (D := fw_D E) hx hb hK (fw_at hP (fw_V0 (f := 19) (by decide) (by decide))) 0 0 rfl rfl (fw_in_e g1) dX10_of_12 ?_
    exact W.iret (v := (μ 0 19 (((4 : Int32) + ((6 : Int32) * x1)) + x2).toNatClampNeg)) hx hb hr (fw_er (mk := Value.int) h hP hS) hS.2.2 dX10_of_13
  subst ha
  have hl := lv_entry ([.ref (fw_ad E 0 18), .int x1, .int x2]) (n := 3) (Nat.le_of_ble_eq_true rfl)
  rw [lg_entry_eq]
  generalize (lg_sl ([.ref (fw_ad E 0 18), .int x1, .int x2]) ++ List.replicate (3 - (lg_sl ([.ref (fw_ad E 0 18), .int x1, .int x2])).length) Slot.unset).toArray = ls at hl ⊢
  exact EN s.heap [] ls hP va_S.rf hl
set_option maxHeartbeats 4000000 in
set_option maxRecDepth 100000 in
theorem k_X10_sets (l : Launch) {E : fw_E} {o : Int64} {d : UInt64} (hE : fw_ok E) {μ μ' : fw_M} (x1 : Int32) (x2 : Int32) (x3 : Int32) {r : Unit} (h : f_X10_sets μ x1 x2 x3 = some (μ', r)) : Met l yX10_sets (fw_ws yX10_sets cX10_sets 4 none) ({ frames := 0, cells := 0, slots := 0, locals := 0 } : Room) (va_Pc [.ref (fw_ad E 0 18), .int x1, .int x2, .int x3] (fw_Pre E o d μ)) (fw_Q E o d none μ') 0 0 (fw_A E) := by
  refine Met.ofW (cc := cX10_sets) (maxL := 4) (ret := none) (by decide) rfl ?_
  intro p e s m args below meth c s₁ B hml hv
  obtain ⟨ha, hK, hP, hSt⟩ := hv
  have hx := B.exec
  have hb := B.bytes
  have hr := B.returns
  have hts := atoms_spec (ws := fw_ws yX10_sets cX10_sets 4 none) B.pre
  have hU : ∀ w ∈ fw_U, w.before args s = true := fun w hw => hts w (List.mem_cons_of_mem _ hw)
  have hown : s.vm.findClass RX10 = some m.cls := findClass_of_methodNamed B.named
  have hlocks := B.notSynchronized
  have EN : ∀ (H : Heap) (locs : List Loc) (ls : Array Slot), fw_P E o d μ H → va_S (fw_A E) s.heap H locs → lv_has ls 4 [(0, .ref (fw_ad E 0 18)), (1, .int x1), (2, .int x2), (3, .int x3)] → W p l e (headSpec (fw_ws yX10_sets cX10_sets 4 none) ({ frames := 0, cells := 0, slots := 0, locals := 0 } : Room)).room s m args below meth c H locs 0 0 (MQ below (fw_Q E o d none μ') args s 0 0 (fw_A E)) (F0 m 0 ls []) := by
    intro H locs ls hP hS hl
    unfold f_X10_sets at h
    refine lv_aload_n hx hb dX10_sets_0 rfl (lv_at hl 0 rfl) ?_
    refine va_get (D := fw_D E) (ci := 8) (v := .ref (fw_ad E 0 19)) (C := RX10) (T := TX10) (N := 20) hx hb hU inU10 hown hK (fw_at hP (fw_V0 (f := 18) (by decide) (by decide))) 0 rfl rfl 1 (by decide) (hU (Cond.fieldLink RX10 7 "LaundryServiceModel" "s" "[I") m_1118) (fun _ h9 => h9) rfl dX10_sets_1 ?_
    refine lv_iconst (v := (4 : Int32)) hx hb dX10_sets_4 (by decide) ?_
    refine lv_bipush (v := (6 : Int32)) hx hb dX10_sets_5 (by decide) ?_
    refine lv_iload_n hx hb dX10_sets_7 rfl (lv_at hl 1 rfl) ?_
    refine lv_imul hx hb dX10_sets_8 ?_
    refine lv_iadd hx hb dX10_sets_9 ?_
    refine lv_iload_n hx hb dX10_sets_10 rfl (lv_at hl 2 rfl) ?_
    refine lv_iadd hx hb dX10_sets_11 ?_
    refine lv_iload_n hx hb dX10_sets_12 rfl (lv_at hl 3 rfl) ?_
    obtain ⟨g1, h⟩ := fw_g_e h
    refine fw_iast (n := 104) hx hb hK hP hE hS (fw_V0 (f := 19) (by decide) (by decide)) (fun _ => rfl) (fw_in_e g1) dX10_sets_13 (fun H locs hP hS => ?_)
    obtain ⟨μ2, eμ2, h⟩ := fw_l_e h
    rw [← eμ2] at hP
    exact W.vret hx hb hr (fw_ev h hP hS) hS.2.2 dX10_sets_14
  subst ha
  have hl := lv_entry ([.ref (fw_ad E 0 18), .int x1, .int x2, .int x3]) (n := 4) (Nat.le_of_ble_eq_true rfl)
  rw [lg_entry_eq]
  generalize (lg_sl ([.ref (fw_ad E 0 18), .int x1, .int x2, .int x3]) ++ List.replicate (4 - (lg_sl ([.ref (fw_ad E 0 18), .int x1, .int x2, .int x3])).length) Slot.unset).toArray = ls at hl ⊢
  exact EN s.heap [] ls hP va_S.rf hl
set_option maxHeartbeats 4000000 in
set_option maxRecDepth 100000 in
theorem k_X10_bits (l : Launch) {E : fw_E} {o : Int64} {d : UInt64} (hE : fw_ok E) {μ : fw_M} (x0 : Int32) {r : Int32} (h : f_X10_bits μ x0 = some r) : Met l yX10_bits (fw_ws yX10_bits cX10_bits 3 (some .int)) ({ frames := 0, cells := 0, slots := 0, locals := 0 } : Room) (va_Pc [.int x0] (fw_Pre E o d μ)) (fw_Q E o d (some (.int r)) μ) 0 0 (fw_A E) := by
  refine Met.ofW (cc := cX10_bits) (maxL := 3) (ret := (some .int)) (by decide) rfl ?_
  intro p e s m args below meth c s₁ B hml hv
  obtain ⟨ha, hK, hP, hSt⟩ := hv
  have hx := B.exec
  have hb := B.bytes
  have hr := B.returns
  have hts := atoms_spec (ws := fw_ws yX10_bits cX10_bits 3 (some .int)) B.pre
  have hU : ∀ w ∈ fw_U, w.before args s = true := fun w hw => hts w (List.mem_cons_of_mem _ hw)
  have hown : s.vm.findClass RX10 = some m.cls := findClass_of_methodNamed B.named
  have hlocks := B.notSynchronized
  have L4 : ∀ (n : Nat) (x1 : Int32) (x2 : Int32) (H : Heap) (locs : List Loc) (ls : Array Slot), f_X10_bits_L4 μ n x1 x2 = some r → fw_P E o d μ H → va_S (fw_A E) s.heap H locs → lv_has ls 3 [(1, .int x1), (2, .int x2)] → W p l e (headSpec (fw_ws yX10_bits cX10_bits 3 (some .int)) ({ frames := 0, cells := 0, slots := 0, locals := 0 } : Room)).room s m args below meth c H locs 0 0 (MQ below (fw_Q E o d (some (.int r)) μ) args s 0 0 (fw_A E)) (F0 m 4 ls []) := by
    intro n4
    induction n4 with
    | zero => intro x1 x2 H locs ls h; rw [f_X10_bits_L4] at h; cases h
    | succ n4 ih4 =>
      intro x1 x2 H locs ls h hP hS hl
      rw [f_X10_bits_L4] at h
      refine lv_iload_n hx hb dX10_bits_4 rfl (lv_at hl 1 rfl) ?_
      refine lv_if_le (tgt := 21) hx hb dX10_bits_5 (by decide) (fun c1 => ?_) (fun c1 => ?_)
      · rw [if_pos c1] at h
        refine lv_iload_n hx hb dX10_bits_21 rfl (lv_at hl 0 rfl) ?_
        exact W.iret (v := x1) hx hb hr (fw_er (mk := Value.int) h hP hS) hS.2.2 dX10_bits_22
      · rw [if_neg c1] at h
        refine lv_iload_n hx hb dX10_bits_8 rfl (lv_at hl 0 rfl) ?_
        refine lv_iload_n hx hb dX10_bits_9 rfl (lv_at hl 1 rfl) ?_
        refine lv_iconst (v := (2 : Int32)) hx hb dX10_bits_10 (by decide) ?_
        refine lv_irem hx hb dX10_bits_11 (by decide) ?_
        refine lv_iadd hx hb dX10_bits_12 ?_
        refine lv_istore_n (lv' := [(1, .int (x1 + (x2 - x2 / (2 : Int32) * (2 : Int32)))), (2, .int x2)]) hx hb dX10_bits_13 rfl hl (by decide) rfl (fun ls hl => ?_)
        refine lv_iload_n hx hb dX10_bits_14 rfl (lv_at hl 1 rfl) ?_
        refine lv_iconst (v := (2 : Int32)) hx hb dX10_bits_15 (by decide) ?_
        refine lv_idiv hx hb dX10_bits_16 (by decide) ?_
        refine lv_istore_n (lv' := [(2, .int (x2 / (2 : Int32))), (1, .int (x1 + (x2 - x2 / (2 : Int32) * (2 : Int32))))]) hx hb dX10_bits_17 rfl hl (by decide) rfl (fun ls hl => ?_)
        refine lv_goto (tgt := 4) hx hb dX10_bits_18 (by decide) ?_
        exact ih4 (x1 + (x2 - x2 / (2 : Int32) * (2 : Int32))) (x2 / (2 : Int32)) H locs ls h hP hS (lv_sub hl [1, 0] rfl)
  have EN : ∀ (H : Heap) (locs : List Loc) (ls : Array Slot), fw_P E o d μ H → va_S (fw_A E) s.heap H locs → lv_has ls 3 [(0, .int x0)] → W p l e (headSpec (fw_ws yX10_bits cX10_bits 3 (some .int)) ({ frames := 0, cells := 0, slots := 0, locals := 0 } : Room)).room s m args below meth c H locs 0 0 (MQ below (fw_Q E o d (some (.int r)) μ) args s 0 0 (fw_A E)) (F0 m 0 ls []) := by
    intro H locs ls hP hS hl
    unfold f_X10_bits at h
    refine lv_iconst (v := (0 : Int32)) hx hb dX10_bits_0 (by decide) ?_
    refine lv_istore_n (lv' := [(1, .int (0 : Int32)), (0, .int x0)]) hx hb dX10_bits_1 rfl hl (by decide) rfl (fun ls hl => ?_)
    refine lv_iload_n hx hb dX10_bits_2 rfl (lv_at hl 1 rfl) ?_
    refine lv_istore_n (lv' := [(2, .int x0), (1, .int (0 : Int32)), (0, .int x0)]) hx hb dX10_bits_3 rfl hl (by decide) rfl (fun ls hl => ?_)
    exact L4 1000 (0 : Int32) x0 H locs ls h hP hS (lv_sub hl [1, 0] rfl)
  subst ha
  have hl := lv_entry ([.int x0]) (n := 3) (Nat.le_of_ble_eq_true rfl)
  rw [lg_entry_eq]
  generalize (lg_sl ([.int x0]) ++ List.replicate (3 - (lg_sl ([.int x0])).length) Slot.unset).toArray = ls at hl ⊢
  exact EN s.heap [] ls hP va_S.rf hl
set_option maxHeartbeats 4000000 in
set_option maxRecDepth 100000 in
theorem k_X10_isInside (l : Launch) {E : fw_E} {o : Int64} {d : UInt64} (hE : fw_ok E) {μ : fw_M} (x1 : Int32) (x2 : Int32) {r : Int32} (h : f_X10_isInside μ x1 x2 = some r) : Met l yX10_isInside (fw_ws yX10_isInside cX10_isInside 3 (some .boolean)) ({ frames := 1, cells := 0, slots := 0, locals := 22 } : Room) (va_Pc [.ref (fw_ad E 0 18), .int x1, .int x2] (fw_Pre E o d μ)) (fw_Q E o d (some (.int r)) μ) 0 0 (fw_A E) := by
  refine Met.ofW (cc := cX10_isInside) (maxL := 3) (ret := (some .boolean)) (by decide) rfl ?_
  intro p e s m args below meth c s₁ B hml hv
  obtain ⟨ha, hK, hP, hSt⟩ := hv
  have hx := B.exec
  have hb := B.bytes
  have hr := B.returns
  have hts := atoms_spec (ws := fw_ws yX10_isInside cX10_isInside 3 (some .boolean)) B.pre
  have hU : ∀ w ∈ fw_U, w.before args s = true := fun w hw => hts w (List.mem_cons_of_mem _ hw)
  have hown : s.vm.findClass RX10 = some m.cls := findClass_of_methodNamed B.named
  have hlocks := B.notSynchronized
  have EN : ∀ (H : Heap) (locs : List Loc) (ls : Array Slot), fw_P E o d μ H → va_S (fw_A E) s.heap H locs → lv_has ls 3 [(0, .ref (fw_ad E 0 18)), (1, .int x1), (2, .int x2)] → W p l e (headSpec (fw_ws yX10_isInside cX10_isInside 3 (some .boolean)) ({ frames := 1, cells := 0, slots := 0, locals := 22 } : Room)).room s m args below meth c H locs 0 0 (MQ below (fw_Q E o d (some (.int r)) μ) args s 0 0 (fw_A E)) (F0 m 0 ls []) := by
    intro H locs ls hP hS hl
    unfold f_X10_isInside at h
    refine lv_aload_n hx hb dX10_isInside_0 rfl (lv_at hl 0 rfl) ?_
    refine lv_iload_n hx hb dX10_isInside_1 rfl (lv_at hl 1 rfl) ?_
    refine lv_iconst (v := (4 : Int32)) hx hb dX10_isInside_2 (by decide) ?_
    obtain ⟨r1, hc1, h⟩ := fw_b1_e h
    refine fw_ret (va_runV (As := [.int x1, .int (4 : Int32)]) (rest := []) ⟨hx, hb, hml, hown, hU⟩ (k_X10_of l hE x1 (4 : Int32) hc1) (cwV 2 hU (fw_gV m_1235 m_1237 ms_20 m_9 m_1238) rfl rfl rfl (by decide +kernel) ⟨(Nat.le_of_ble_eq_true rfl), (Nat.le_of_ble_eq_true rfl)⟩) ⟨fw_blind, fw_recv hK hP (fw_V0 (f := 18) (by decide) (by decide)) rfl rfl, fun U hU9 hW9 => ⟨rfl, fw_pre hK hP hSt hS U hU9 hW9⟩⟩ rfl rfl hl.1 rfl (lv_room (Nat.le_of_ble_eq_true rfl)) dX10_isInside_3 ⟨Nat.zero_le _, Nat.zero_le _⟩) hS (fun H locs hP hS => ?_)
    refine lv_iload_n hx hb dX10_isInside_6 rfl (lv_at hl 2 rfl) ?_
    refine lv_iconst (v := (1 : Int32)) hx hb dX10_isInside_7 (by decide) ?_
    refine lv_iadd hx hb dX10_isInside_8 ?_
    refine lv_icmp_ne (tgt := 16) hx hb dX10_isInside_9 (by decide) (fun c2 => ?_) (fun c2 => ?_)
    · rw [if_neg c2] at h
      refine lv_iconst (v := (0 : Int32)) hx hb dX10_isInside_16 (by decide) ?_
      exact W.zret (v := (0 : Int32)) hx hb hr rfl (fw_er (mk := Value.int) h hP hS) hS.2.2 dX10_isInside_17
    · rw [if_pos c2] at h
      refine lv_iconst (v := (1 : Int32)) hx hb dX10_isInside_12 (by decide) ?_
      refine lv_goto (tgt := 17) hx hb dX10_isInside_13 (by decide) ?_
      exact W.zret (v := (1 : Int32)) hx hb hr rfl (fw_er (mk := Value.int) h hP hS) hS.2.2 dX10_isInside_17
  subst ha
  have hl := lv_entry ([.ref (fw_ad E 0 18), .int x1, .int x2]) (n := 3) (Nat.le_of_ble_eq_true rfl)
  rw [lg_entry_eq]
  generalize (lg_sl ([.ref (fw_ad E 0 18), .int x1, .int x2]) ++ List.replicate (3 - (lg_sl ([.ref (fw_ad E 0 18), .int x1, .int x2])).length) Slot.unset).toArray = ls at hl ⊢
  exact EN s.heap [] ls hP va_S.rf hl
set_option maxHeartbeats 4000000 in
set_option maxRecDepth 100000 in
theorem k_X10_held (l : Launch) {E : fw_E} {o : Int64} {d : UInt64} (hE : fw_ok E) {μ : fw_M} (x1 : Int32) {r : Int32} (h : f_X10_held μ x1 = some r) : Met l yX10_held (fw_ws yX10_held cX10_held 4 (some .int)) ({ frames := 2, cells := 0, slots := 0, locals := 44 } : Room) (va_Pc [.ref (fw_ad E 0 18), .int x1] (fw_Pre E o d μ)) (fw_Q E o d (some (.int r)) μ) 0 0 (fw_A E) := by
  refine Met.ofW (cc := cX10_held) (maxL := 4) (ret := (some .int)) (by decide) rfl ?_
  intro p e s m args below meth c s₁ B hml hv
  obtain ⟨ha, hK, hP, hSt⟩ := hv
  have hx := B.exec
  have hb := B.bytes
  have hr := B.returns
  have hts := atoms_spec (ws := fw_ws yX10_held cX10_held 4 (some .int)) B.pre
  have hU : ∀ w ∈ fw_U, w.before args s = true := fun w hw => hts w (List.mem_cons_of_mem _ hw)
  have hown : s.vm.findClass RX10 = some m.cls := findClass_of_methodNamed B.named
  have hlocks := B.notSynchronized
  have L4 : ∀ (n : Nat) (x1 : Int32) (x2 : Int32) (x3 : Int32) (H : Heap) (locs : List Loc) (ls : Array Slot), f_X10_held_L4 μ n x1 x2 x3 = some r → fw_P E o d μ H → va_S (fw_A E) s.heap H locs → lv_has ls 4 [(0, .ref (fw_ad E 0 18)), (1, .int x1), (2, .int x2), (3, .int x3)] → W p l e (headSpec (fw_ws yX10_held cX10_held 4 (some .int)) ({ frames := 2, cells := 0, slots := 0, locals := 44 } : Room)).room s m args below meth c H locs 0 0 (MQ below (fw_Q E o d (some (.int r)) μ) args s 0 0 (fw_A E)) (F0 m 4 ls []) := by
    intro n4
    induction n4 with
    | zero => intro x1 x2 x3 H locs ls h; rw [f_X10_held_L4] at h; cases h
    | succ n4 ih4 =>
      intro x1 x2 x3 H locs ls h hP hS hl
      rw [f_X10_held_L4] at h
      refine lv_iload_n hx hb dX10_held_4 rfl (lv_at hl 3 rfl) ?_
      refine lv_aload_n hx hb dX10_held_5 rfl (lv_at hl 0 rfl) ?_
      refine va_get (D := fw_D E) (ci := 8) (v := .ref (fw_ad E 0 19)) (C := RX10) (T := TX10) (N := 20) hx hb hU inU10 hown hK (fw_at hP (fw_V0 (f := 18) (by decide) (by decide))) 0 rfl rfl 1 (by decide) (hU (Cond.fieldLink RX10 7 "LaundryServiceModel" "s" "[I") m_1118) (fun _ h9 => h9) rfl dX10_held_6 ?_
      refine lv_iconst (v := (0 : Int32)) hx hb dX10_held_9 (by decide) ?_
      refine va_iald (D := fw_D E) hx hb hK (fw_at hP (fw_V0 (f := 19) (by decide) (by decide))) 0 0 rfl rfl (fw_in_e (n := 104) (by decide)) dX10_held_10 ?_
      refine lv_icmp_ge (tgt := 37) hx hb dX10_held_11 (by decide) (fun c1 => ?_) (fun c1 => ?_)
      · rw [if_pos c1] at h
        refine lv_iload_n hx hb dX10_held_37 rfl (lv_at hl 2 rfl) ?_
        exact W.iret (v := x2) hx hb hr (fw_er (mk := Value.int) h hP hS) hS.2.2 dX10_held_38
      · rw [if_neg c1] at h
        refine lv_iload_n hx hb dX10_held_14 rfl (lv_at hl 2 rfl) ?_
        refine lv_aload_n hx hb dX10_held_15 rfl (lv_at hl 0 rfl) ?_
        refine lv_iload_n hx hb dX10_held_16 rfl (lv_at hl 3 rfl) ?_
        refine lv_iload_n hx hb dX10_held_17 rfl (lv_at hl 1 rfl) ?_
        obtain ⟨r2, hc2, h⟩ := fw_b1_e h
        refine fw_ret (va_runV (As := [.int x3, .int x1]) (rest := [.int x2]) ⟨hx, hb, hml, hown, hU⟩ (k_X10_isInside l hE x3 x1 hc2) (cwV 2 hU (fw_gV m_1243 m_1245 ms_22 m_9 m_1246) rfl rfl rfl (by decide +kernel) ⟨(Nat.le_of_ble_eq_true rfl), (Nat.le_of_ble_eq_true rfl)⟩) ⟨fw_blind, fw_recv hK hP (fw_V0 (f := 18) (by decide) (by decide)) rfl rfl, fun U hU9 hW9 => ⟨rfl, fw_pre hK hP hSt hS U hU9 hW9⟩⟩ rfl rfl hl.1 rfl (lv_room (Nat.le_of_ble_eq_true rfl)) dX10_held_18 ⟨Nat.zero_le _, Nat.zero_le _⟩) hS (fun H locs hP hS => ?_)
        refine lv_if_eq (tgt := 28) hx hb dX10_held_21 (by decide) (fun c3 => ?_) (fun c3 => ?_)
        · rw [if_pos c3] at h
          refine lv_iconst (v := (0 : Int32)) hx hb dX10_held_28 (by decide) ?_
          refine lv_iadd hx hb dX10_held_29 ?_
          refine lv_istore_n (lv' := [(2, .int (x2 + (0 : Int32))), (0, .ref (fw_ad E 0 18)), (1, .int x1), (3, .int x3)]) hx hb dX10_held_30 rfl hl (by decide) rfl (fun ls hl => ?_)
          refine lv_iinc (v := (x3 + (1 : Int32))) (lv' := [(3, .int (x3 + (1 : Int32))), (2, .int (x2 + (0 : Int32))), (0, .ref (fw_ad E 0 18)), (1, .int x1)]) hx hb dX10_held_31 hl (k := 3) rfl rfl (by decide) rfl (fun ls hl => ?_)
          refine lv_goto (tgt := 4) hx hb dX10_held_34 (by decide) ?_
          exact ih4 x1 (x2 + (0 : Int32)) (x3 + (1 : Int32)) H locs ls h hP hS (lv_sub hl [2, 3, 1, 0] rfl)
        · rw [if_neg c3] at h
          refine lv_iconst (v := (1 : Int32)) hx hb dX10_held_24 (by decide) ?_
          refine lv_goto (tgt := 29) hx hb dX10_held_25 (by decide) ?_
          refine lv_iadd hx hb dX10_held_29 ?_
          refine lv_istore_n (lv' := [(2, .int (x2 + (1 : Int32))), (0, .ref (fw_ad E 0 18)), (1, .int x1), (3, .int x3)]) hx hb dX10_held_30 rfl hl (by decide) rfl (fun ls hl => ?_)
          refine lv_iinc (v := (x3 + (1 : Int32))) (lv' := [(3, .int (x3 + (1 : Int32))), (2, .int (x2 + (1 : Int32))), (0, .ref (fw_ad E 0 18)), (1, .int x1)]) hx hb dX10_held_31 hl (k := 3) rfl rfl (by decide) rfl (fun ls hl => ?_)
          refine lv_goto (tgt := 4) hx hb dX10_held_34 (by decide) ?_
          exact ih4 x1 (x2 + (1 : Int32)) (x3 + (1 : Int32)) H locs ls h hP hS (lv_sub hl [2, 3, 1, 0] rfl)
  have EN : ∀ (H : Heap) (locs : List Loc) (ls : Array Slot), fw_P E o d μ H → va_S (fw_A E) s.heap H locs → lv_has ls 4 [(0, .ref (fw_ad E 0 18)), (1, .int x1)] → W p l e (headSpec (fw_ws yX10_held cX10_held 4 (some .int)) ({ frames := 2, cells := 0, slots := 0, locals := 44 } : Room)).room s m args below meth c H locs 0 0 (MQ below (fw_Q E o d (some (.int r)) μ) args s 0 0 (fw_A E)) (F0 m 0 ls []) := by
    intro H locs ls hP hS hl
    unfold f_X10_held at h
    refine lv_iconst (v := (0 : Int32)) hx hb dX10_held_0 (by decide) ?_
    refine lv_istore_n (lv' := [(2, .int (0 : Int32)), (0, .ref (fw_ad E 0 18)), (1, .int x1)]) hx hb dX10_held_1 rfl hl (by decide) rfl (fun ls hl => ?_)
    refine lv_iconst (v := (0 : Int32)) hx hb dX10_held_2 (by decide) ?_
    refine lv_istore_n (lv' := [(3, .int (0 : Int32)), (2, .int (0 : Int32)), (0, .ref (fw_ad E 0 18)), (1, .int x1)]) hx hb dX10_held_3 rfl hl (by decide) rfl (fun ls hl => ?_)
    exact L4 1000 x1 (0 : Int32) (0 : Int32) H locs ls h hP hS (lv_sub hl [2, 3, 1, 0] rfl)
  subst ha
  have hl := lv_entry ([.ref (fw_ad E 0 18), .int x1]) (n := 4) (Nat.le_of_ble_eq_true rfl)
  rw [lg_entry_eq]
  generalize (lg_sl ([.ref (fw_ad E 0 18), .int x1]) ++ List.replicate (4 - (lg_sl ([.ref (fw_ad E 0 18), .int x1])).length) Slot.unset).toArray = ls at hl ⊢
  exact EN s.heap [] ls hP va_S.rf hl
set_option maxHeartbeats 4000000 in
set_option maxRecDepth 100000 in
theorem k_X10_heldOf (l : Launch) {E : fw_E} {o : Int64} {d : UInt64} (hE : fw_ok E) {μ : fw_M} (x1 : Int32) (x2 : Int32) {r : Int32} (h : f_X10_heldOf μ x1 x2 = some r) : Met l yX10_heldOf (fw_ws yX10_heldOf cX10_heldOf 5 (some .int)) ({ frames := 2, cells := 0, slots := 0, locals := 44 } : Room) (va_Pc [.ref (fw_ad E 0 18), .int x1, .int x2] (fw_Pre E o d μ)) (fw_Q E o d (some (.int r)) μ) 0 0 (fw_A E) := by
  refine Met.ofW (cc := cX10_heldOf) (maxL := 5) (ret := (some .int)) (by decide) rfl ?_
  intro p e s m args below meth c s₁ B hml hv
  obtain ⟨ha, hK, hP, hSt⟩ := hv
  have hx := B.exec
  have hb := B.bytes
  have hr := B.returns
  have hts := atoms_spec (ws := fw_ws yX10_heldOf cX10_heldOf 5 (some .int)) B.pre
  have hU : ∀ w ∈ fw_U, w.before args s = true := fun w hw => hts w (List.mem_cons_of_mem _ hw)
  have hown : s.vm.findClass RX10 = some m.cls := findClass_of_methodNamed B.named
  have hlocks := B.notSynchronized
  have L5 : ∀ (n : Nat) (x1 : Int32) (x2 : Int32) (x3 : Int32) (x4 : Int32) (H : Heap) (locs : List Loc) (ls : Array Slot), f_X10_heldOf_L5 μ n x1 x2 x3 x4 = some r → fw_P E o d μ H → va_S (fw_A E) s.heap H locs → lv_has ls 5 [(0, .ref (fw_ad E 0 18)), (1, .int x1), (2, .int x2), (3, .int x3), (4, .int x4)] → W p l e (headSpec (fw_ws yX10_heldOf cX10_heldOf 5 (some .int)) ({ frames := 2, cells := 0, slots := 0, locals := 44 } : Room)).room s m args below meth c H locs 0 0 (MQ below (fw_Q E o d (some (.int r)) μ) args s 0 0 (fw_A E)) (F0 m 5 ls []) := by
    intro n5
    induction n5 with
    | zero => intro x1 x2 x3 x4 H locs ls h; rw [f_X10_heldOf_L5] at h; cases h
    | succ n5 ih5 =>
      intro x1 x2 x3 x4 H locs ls h hP hS hl
      rw [f_X10_heldOf_L5] at h
      refine lv_iload hx hb dX10_heldOf_5 (lv_at hl 4 rfl) ?_
      refine lv_aload_n hx hb dX10_heldOf_7 rfl (lv_at hl 0 rfl) ?_
      refine va_get (D := fw_D E) (ci := 8) (v := .ref (fw_ad E 0 19)) (C := RX10) (T := TX10) (N := 20) hx hb hU inU10 hown hK (fw_at hP (fw_V0 (f := 18) (by decide) (by decide))) 0 rfl rfl 1 (by decide) (hU (Cond.fieldLink RX10 7 "LaundryServiceModel" "s" "[I") m_1118) (fun _ h9 => h9) rfl dX10_heldOf_8 ?_
      refine lv_iconst (v := (0 : Int32)) hx hb dX10_heldOf_11 (by decide) ?_
      refine va_iald (D := fw_D E) hx hb hK (fw_at hP (fw_V0 (f := 19) (by decide) (by decide))) 0 0 rfl rfl (fw_in_e (n := 104) (by decide)) dX10_heldOf_12 ?_
      refine lv_icmp_ge (tgt := 51) hx hb dX10_heldOf_13 (by decide) (fun c1 => ?_) (fun c1 => ?_)
      · rw [if_pos c1] at h
        refine lv_iload_n hx hb dX10_heldOf_51 rfl (lv_at hl 3 rfl) ?_
        exact W.iret (v := x3) hx hb hr (fw_er (mk := Value.int) h hP hS) hS.2.2 dX10_heldOf_52
      · rw [if_neg c1] at h
        refine lv_iload_n hx hb dX10_heldOf_16 rfl (lv_at hl 3 rfl) ?_
        refine lv_aload_n hx hb dX10_heldOf_17 rfl (lv_at hl 0 rfl) ?_
        refine lv_iload hx hb dX10_heldOf_18 (lv_at hl 4 rfl) ?_
        refine lv_iload_n hx hb dX10_heldOf_20 rfl (lv_at hl 1 rfl) ?_
        obtain ⟨r2, hc2, h⟩ := fw_b1_e h
        refine fw_ret (va_runV (As := [.int x4, .int x1]) (rest := [.int x3]) ⟨hx, hb, hml, hown, hU⟩ (k_X10_isInside l hE x4 x1 hc2) (cwV 2 hU (fw_gV m_1243 m_1245 ms_22 m_9 m_1246) rfl rfl rfl (by decide +kernel) ⟨(Nat.le_of_ble_eq_true rfl), (Nat.le_of_ble_eq_true rfl)⟩) ⟨fw_blind, fw_recv hK hP (fw_V0 (f := 18) (by decide) (by decide)) rfl rfl, fun U hU9 hW9 => ⟨rfl, fw_pre hK hP hSt hS U hU9 hW9⟩⟩ rfl rfl hl.1 rfl (lv_room (Nat.le_of_ble_eq_true rfl)) dX10_heldOf_21 ⟨Nat.zero_le _, Nat.zero_le _⟩) hS (fun H locs hP hS => ?_)
        refine lv_if_eq (tgt := 42) hx hb dX10_heldOf_24 (by decide) (fun c3 => ?_) (fun c3 => ?_)
        · rw [if_pos c3] at h
          refine lv_iconst (v := (0 : Int32)) hx hb dX10_heldOf_42 (by decide) ?_
          refine lv_iadd hx hb dX10_heldOf_43 ?_
          refine lv_istore_n (lv' := [(3, .int (x3 + (0 : Int32))), (0, .ref (fw_ad E 0 18)), (1, .int x1), (2, .int x2), (4, .int x4)]) hx hb dX10_heldOf_44 rfl hl (by decide) rfl (fun ls hl => ?_)
          refine lv_iinc (v := (x4 + (1 : Int32))) (lv' := [(4, .int (x4 + (1 : Int32))), (3, .int (x3 + (0 : Int32))), (0, .ref (fw_ad E 0 18)), (1, .int x1), (2, .int x2)]) hx hb dX10_heldOf_45 hl (k := 4) rfl rfl (by decide) rfl (fun ls hl => ?_)
          refine lv_goto (tgt := 5) hx hb dX10_heldOf_48 (by decide) ?_
          exact ih5 x1 x2 (x3 + (0 : Int32)) (x4 + (1 : Int32)) H locs ls h hP hS (lv_sub hl [2, 3, 4, 1, 0] rfl)
        · rw [if_neg c3] at h
          refine lv_aload_n hx hb dX10_heldOf_27 rfl (lv_at hl 0 rfl) ?_
          refine lv_iload hx hb dX10_heldOf_28 (lv_at hl 4 rfl) ?_
          refine lv_iconst (v := (0 : Int32)) hx hb dX10_heldOf_30 (by decide) ?_
          obtain ⟨r4, hc4, h⟩ := fw_b1_e h
          refine fw_ret (va_runV (As := [.int x4, .int (0 : Int32)]) (rest := [.int x3]) ⟨hx, hb, hml, hown, hU⟩ (k_X10_of l hE x4 (0 : Int32) hc4) (cwV 2 hU (fw_gV m_1235 m_1237 ms_20 m_9 m_1238) rfl rfl rfl (by decide +kernel) ⟨(Nat.le_of_ble_eq_true rfl), (Nat.le_of_ble_eq_true rfl)⟩) ⟨fw_blind, fw_recv hK hP (fw_V0 (f := 18) (by decide) (by decide)) rfl rfl, fun U hU9 hW9 => ⟨rfl, fw_pre hK hP hSt hS U hU9 hW9⟩⟩ rfl rfl hl.1 rfl (lv_room (Nat.le_of_ble_eq_true rfl)) dX10_heldOf_31 ⟨Nat.zero_le _, Nat.zero_le _⟩) hS (fun H locs hP hS => ?_)
          refine lv_iload_n hx hb dX10_heldOf_34 rfl (lv_at hl 2 rfl) ?_
          refine lv_icmp_ne (tgt := 42) hx hb dX10_heldOf_35 (by decide) (fun c5 => ?_) (fun c5 => ?_)
          · rw [if_neg c5] at h
            refine lv_iconst (v := (0 : Int32)) hx hb dX10_heldOf_42 (by decide) ?_
            refine lv_iadd hx hb dX10_heldOf_43 ?_
            refine lv_istore_n (lv' := [(3, .int (x3 + (0 : Int32))), (0, .ref (fw_ad E 0 18)), (1, .int x1), (2, .int x2), (4, .int x4)]) hx hb dX10_heldOf_44 rfl hl (by decide) rfl (fun ls hl => ?_)
            refine lv_iinc (v := (x4 + (1 : Int32))) (lv' := [(4, .int (x4 + (1 : Int32))), (3, .int (x3 + (0 : Int32))), (0, .ref (fw_ad E 0 18)), (1, .int x1), (2, .int x2)]) hx hb dX10_heldOf_45 hl (k := 4) rfl rfl (by decide) rfl (fun ls hl => ?_)
            refine lv_goto (tgt := 5) hx hb dX10_heldOf_48 (by decide) ?_
            exact ih5 x1 x2 (x3 + (0 : Int32)) (x4 + (1 : Int32)) H locs ls h hP hS (lv_sub hl [2, 3, 4, 1, 0] rfl)
          · rw [if_pos c5] at h
            refine lv_iconst (v := (1 : Int32)) hx hb dX10_heldOf_38 (by decide) ?_
            refine lv_goto (tgt := 43) hx hb dX10_heldOf_39 (by decide) ?_
            refine lv_iadd hx hb dX10_heldOf_43 ?_
            refine lv_istore_n (lv' := [(3, .int (x3 + (1 : Int32))), (0, .ref (fw_ad E 0 18)), (1, .int x1), (2, .int x2), (4, .int x4)]) hx hb dX10_heldOf_44 rfl hl (by decide) rfl (fun ls hl => ?_)
            refine lv_iinc (v := (x4 + (1 : Int32))) (lv' := [(4, .int (x4 + (1 : Int32))), (3, .int (x3 + (1 : Int32))), (0, .ref (fw_ad E 0 18)), (1, .int x1), (2, .int x2)]) hx hb dX10_heldOf_45 hl (k := 4) rfl rfl (by decide) rfl (fun ls hl => ?_)
            refine lv_goto (tgt := 5) hx hb dX10_heldOf_48 (by decide) ?_
            exact ih5 x1 x2 (x3 + (1 : Int32)) (x4 + (1 : Int32)) H locs ls h hP hS (lv_sub hl [2, 3, 4, 1, 0] rfl)
  have EN : ∀ (H : Heap) (locs : List Loc) (ls : Array Slot), fw_P E o d μ H → va_S (fw_A E) s.heap H locs → lv_has ls 5 [(0, .ref (fw_ad E 0 18)), (1, .int x1), (2, .int x2)] → W p l e (headSpec (fw_ws yX10_heldOf cX10_heldOf 5 (some .int)) ({ frames := 2, cells := 0, slots := 0, locals := 44 } : Room)).room s m args below meth c H locs 0 0 (MQ below (fw_Q E o d (some (.int r)) μ) args s 0 0 (fw_A E)) (F0 m 0 ls []) := by
    intro H locs ls hP hS hl
    unfold f_X10_heldOf at h
    refine lv_iconst (v := (0 : Int32)) hx hb dX10_heldOf_0 (by decide) ?_
    refine lv_istore_n (lv' := [(3, .int (0 : Int32)), (0, .ref (fw_ad E 0 18)), (1, .int x1), (2, .int x2)]) hx hb dX10_heldOf_1 rfl hl (by decide) rfl (fun ls hl => ?_)
    refine lv_iconst (v := (0 : Int32)) hx hb dX10_heldOf_2 (by decide) ?_
    refine lv_istore (lv' := [(4, .int (0 : Int32)), (3, .int (0 : Int32)), (0, .ref (fw_ad E 0 18)), (1, .int x1), (2, .int x2)]) hx hb dX10_heldOf_3 hl (by decide) rfl (fun ls hl => ?_)
    exact L5 1000 x1 x2 (0 : Int32) (0 : Int32) H locs ls h hP hS (lv_sub hl [2, 3, 4, 1, 0] rfl)
  subst ha
  have hl := lv_entry ([.ref (fw_ad E 0 18), .int x1, .int x2]) (n := 5) (Nat.le_of_ble_eq_true rfl)
  rw [lg_entry_eq]
  generalize (lg_sl ([.ref (fw_ad E 0 18), .int x1, .int x2]) ++ List.replicate (5 - (lg_sl ([.ref (fw_ad E 0 18), .int x1, .int x2])).length) Slot.unset).toArray = ls at hl ⊢
  exact EN s.heap [] ls hP va_S.rf hl
set_option maxHeartbeats 4000000 in
set_option maxRecDepth 100000 in
theorem k_X10_washable (l : Launch) {E : fw_E} {o : Int64} {d : UInt64} (hE : fw_ok E) {μ : fw_M} (x0 : Int32) {r : Int32} (h : f_X10_washable μ x0 = some r) : Met l yX10_washable (fw_ws yX10_washable cX10_washable 3 (some .int)) ({ frames := 0, cells := 0, slots := 0, locals := 0 } : Room) (va_Pc [.int x0] (fw_Pre E o d μ)) (fw_Q E o d (some (.int r)) μ) 0 0 (fw_A E) := by
  refine Met.ofW (cc := cX10_washable) (maxL := 3) (ret := (some .int)) (by decide) rfl ?_
  intro p e s m args below meth c s₁ B hml hv
  obtain ⟨ha, hK, hP, hSt⟩ := hv
  have hx := B.exec
  have hb := B.bytes
  have hr := B.returns
  have hts := atoms_spec (ws := fw_ws yX10_washable cX10_washable 3 (some .int)) B.pre
  have hU : ∀ w ∈ fw_U, w.before args s = true := fun w hw => hts w (List.mem_cons_of_mem _ hw)
  have hown : s.vm.findClass RX10 = some m.cls := findClass_of_methodNamed B.named
  have hlocks := B.notSynchronized
  have L4 : ∀ (n : Nat) (x0 : Int32) (x1 : Int32) (x2 : Int32) (H : Heap) (locs : List Loc) (ls : Array Slot), f_X10_washable_L4 μ n x0 x1 x2 = some r → fw_P E o d μ H → va_S (fw_A E) s.heap H locs → lv_has ls 3 [(0, .int x0), (1, .int x1), (2, .int x2)] → W p l e (headSpec (fw_ws yX10_washable cX10_washable 3 (some .int)) ({ frames := 0, cells := 0, slots := 0, locals := 0 } : Room)).room s m args below meth c H locs 0 0 (MQ below (fw_Q E o d (some (.int r)) μ) args s 0 0 (fw_A E)) (F0 m 4 ls []) := by
    intro n4
    induction n4 with
    | zero => intro x0 x1 x2 H locs ls h; rw [f_X10_washable_L4] at h; cases h
    | succ n4 ih4 =>
      intro x0 x1 x2 H locs ls h hP hS hl
      rw [f_X10_washable_L4] at h
      refine lv_iload_n hx hb dX10_washable_4 rfl (lv_at hl 2 rfl) ?_
      refine lv_bipush (v := (8 : Int32)) hx hb dX10_washable_5 (by decide) ?_
      refine lv_icmp_ge (tgt := 37) hx hb dX10_washable_7 (by decide) (fun c1 => ?_) (fun c1 => ?_)
      · rw [if_pos c1] at h
        refine lv_iload_n hx hb dX10_washable_37 rfl (lv_at hl 1 rfl) ?_
        exact W.iret (v := x1) hx hb hr (fw_er (mk := Value.int) h hP hS) hS.2.2 dX10_washable_38
      · rw [if_neg c1] at h
        refine lv_iload_n hx hb dX10_washable_10 rfl (lv_at hl 1 rfl) ?_
        refine lv_iload_n hx hb dX10_washable_11 rfl (lv_at hl 0 rfl) ?_
        refine lv_bipush (v := (50 : Int32)) hx hb dX10_washable_12 (by decide) ?_
        refine lv_bipush (v := (10 : Int32)) hx hb dX10_washable_14 (by decide) ?_
        refine lv_iload_n hx hb dX10_washable_16 rfl (lv_at hl 2 rfl) ?_
        refine lv_imul hx hb dX10_washable_17 ?_
        refine lv_iadd hx hb dX10_washable_18 ?_
        refine lv_icmp_lt (tgt := 28) hx hb dX10_washable_19 (by decide) (fun c2 => ?_) (fun c2 => ?_)
        · rw [if_pos c2] at h
          refine lv_iconst (v := (0 : Int32)) hx hb dX10_washable_28 (by decide) ?_
          refine lv_ior hx hb dX10_washable_29 ?_
          refine lv_istore_n (lv' := [(1, .int (x1 ||| (0 : Int32))), (0, .int x0), (2, .int x2)]) hx hb dX10_washable_30 rfl hl (by decide) rfl (fun ls hl => ?_)
          refine lv_iinc (v := (x2 + (1 : Int32))) (lv' := [(2, .int (x2 + (1 : Int32))), (1, .int (x1 ||| (0 : Int32))), (0, .int x0)]) hx hb dX10_washable_31 hl (k := 2) rfl rfl (by decide) rfl (fun ls hl => ?_)
          refine lv_goto (tgt := 4) hx hb dX10_washable_34 (by decide) ?_
          exact ih4 x0 (x1 ||| (0 : Int32)) (x2 + (1 : Int32)) H locs ls h hP hS (lv_sub hl [2, 1, 0] rfl)
        · rw [if_neg c2] at h
          refine lv_iconst (v := (1 : Int32)) hx hb dX10_washable_22 (by decide) ?_
          refine lv_iload_n hx hb dX10_washable_23 rfl (lv_at hl 2 rfl) ?_
          refine lv_ishl hx hb dX10_washable_24 ?_
          refine lv_goto (tgt := 29) hx hb dX10_washable_25 (by decide) ?_
          refine lv_ior hx hb dX10_washable_29 ?_
          refine lv_istore_n (lv' := [(1, .int (x1 ||| ((1 : Int32) <<< (x2 &&& (31 : Int32))))), (0, .int x0), (2, .int x2)]) hx hb dX10_washable_30 rfl hl (by decide) rfl (fun ls hl => ?_)
          refine lv_iinc (v := (x2 + (1 : Int32))) (lv' := [(2, .int (x2 + (1 : Int32))), (1, .int (x1 ||| ((1 : Int32) <<< (x2 &&& (31 : Int32))))), (0, .int x0)]) hx hb dX10_washable_31 hl (k := 2) rfl rfl (by decide) rfl (fun ls hl => ?_)
          refine lv_goto (tgt := 4) hx hb dX10_washable_34 (by decide) ?_
          exact ih4 x0 (x1 ||| ((1 : Int32) <<< (x2 &&& (31 : Int32)))) (x2 + (1 : Int32)) H locs ls h hP hS (lv_sub hl [2, 1, 0] rfl)
  have EN : ∀ (H : Heap) (locs : List Loc) (ls : Array Slot), fw_P E o d μ H → va_S (fw_A E) s.heap H locs → lv_has ls 3 [(0, .int x0)] → W p l e (headSpec (fw_ws yX10_washable cX10_washable 3 (some .int)) ({ frames := 0, cells := 0, slots := 0, locals := 0 } : Room)).room s m args below meth c H locs 0 0 (MQ below (fw_Q E o d (some (.int r)) μ) args s 0 0 (fw_A E)) (F0 m 0 ls []) := by
    intro H locs ls hP hS hl
    unfold f_X10_washable at h
    refine lv_iconst (v := (0 : Int32)) hx hb dX10_washable_0 (by decide) ?_
    refine lv_istore_n (lv' := [(1, .int (0 : Int32)), (0, .int x0)]) hx hb dX10_washable_1 rfl hl (by decide) rfl (fun ls hl => ?_)
    refine lv_iconst (v := (0 : Int32)) hx hb dX10_washable_2 (by decide) ?_
    refine lv_istore_n (lv' := [(2, .int (0 : Int32)), (1, .int (0 : Int32)), (0, .int x0)]) hx hb dX10_washable_3 rfl hl (by decide) rfl (fun ls hl => ?_)
    exact L4 1000 x0 (0 : Int32) (0 : Int32) H locs ls h hP hS (lv_sub hl [2, 1, 0] rfl)
  subst ha
  have hl := lv_entry ([.int x0]) (n := 3) (Nat.le_of_ble_eq_true rfl)
  rw [lg_entry_eq]
  generalize (lg_sl ([.int x0]) ++ List.replicate (3 - (lg_sl ([.int x0])).length) Slot.unset).toArray = ls at hl ⊢
  exact EN s.heap [] ls hP va_S.rf hl
set_option maxHeartbeats 4000000 in
set_option maxRecDepth 100000 in
theorem k_X10_greatest (l : Launch) {E : fw_E} {o : Int64} {d : UInt64} (hE : fw_ok E) {μ : fw_M} (x1 : Int32) {r : Int32} (h : f_X10_greatest μ x1 = some r) : Met l yX10_greatest (fw_ws yX10_greatest cX10_greatest 4 (some .int)) ({ frames := 2, cells := 0, slots := 0, locals := 44 } : Room) (va_Pc [.ref (fw_ad E 0 18), .int x1] (fw_Pre E o d μ)) (fw_Q E o d (some (.int r)) μ) 0 0 (fw_A E) := by
  refine Met.ofW (cc := cX10_greatest) (maxL := 4) (ret := (some .int)) (by decide) rfl ?_
  intro p e s m args below meth c s₁ B hml hv
  obtain ⟨ha, hK, hP, hSt⟩ := hv
  have hx := B.exec
  have hb := B.bytes
  have hr := B.returns
  have hts := atoms_spec (ws := fw_ws yX10_greatest cX10_greatest 4 (some .int)) B.pre
  have hU : ∀ w ∈ fw_U, w.before args s = true := fun w hw => hts w (List.mem_cons_of_mem _ hw)
  have hown : s.vm.findClass RX10 = some m.cls := findClass_of_methodNamed B.named
  have hlocks := B.notSynchronized
  have L4 : ∀ (n : Nat) (x1 : Int32) (x2 : Int32) (x3 : Int32) (H : Heap) (locs : List Loc) (ls : Array Slot), f_X10_greatest_L4 μ n x1 x2 x3 = some r → fw_P E o d μ H → va_S (fw_A E) s.heap H locs → lv_has ls 4 [(0, .ref (fw_ad E 0 18)), (1, .int x1), (2, .int x2), (3, .int x3)] → W p l e (headSpec (fw_ws yX10_greatest cX10_greatest 4 (some .int)) ({ frames := 2, cells := 0, slots := 0, locals := 44 } : Room)).room s m args below meth c H locs 0 0 (MQ below (fw_Q E o d (some (.int r)) μ) args s 0 0 (fw_A E)) (F0 m 4 ls []) := by
    intro n4
    induction n4 with
    | zero => intro x1 x2 x3 H locs ls h; rw [f_X10_greatest_L4] at h; cases h
    | succ n4 ih4 =>
      intro x1 x2 x3 H locs ls h hP hS hl
      rw [f_X10_greatest_L4] at h
      refine lv_iload_n hx hb dX10_greatest_4 rfl (lv_at hl 3 rfl) ?_
      refine lv_aload_n hx hb dX10_greatest_5 rfl (lv_at hl 0 rfl) ?_
      refine va_get (D := fw_D E) (ci := 8) (v := .ref (fw_ad E 0 19)) (C := RX10) (T := TX10) (N := 20) hx hb hU inU10 hown hK (fw_at hP (fw_V0 (f := 18) (by decide) (by decide))) 0 rfl rfl 1 (by decide) (hU (Cond.fieldLink RX10 7 "LaundryServiceModel" "s" "[I") m_1118) (fun _ h9 => h9) rfl dX10_greatest_6 ?_
      refine lv_iconst (v := (0 : Int32)) hx hb dX10_greatest_9 (by decide) ?_
      refine va_iald (D := fw_D E) hx hb hK (fw_at hP (fw_V0 (f := 19) (by decide) (by decide))) 0 0 rfl rfl (fw_in_e (n := 104) (by decide)) dX10_greatest_10 ?_
      refine lv_icmp_ge (tgt := 50) hx hb dX10_greatest_11 (by decide) (fun c1 => ?_) (fun c1 => ?_)
      · rw [if_pos c1] at h
        refine lv_iload_n hx hb dX10_greatest_50 rfl (lv_at hl 2 rfl) ?_
        exact W.iret (v := x2) hx hb hr (fw_er (mk := Value.int) h hP hS) hS.2.2 dX10_greatest_51
      · rw [if_neg c1] at h
        refine lv_aload_n hx hb dX10_greatest_14 rfl (lv_at hl 0 rfl) ?_
        refine lv_iload_n hx hb dX10_greatest_15 rfl (lv_at hl 3 rfl) ?_
        refine lv_iload_n hx hb dX10_greatest_16 rfl (lv_at hl 1 rfl) ?_
        obtain ⟨r2, hc2, h⟩ := fw_b1_e h
        refine fw_ret (va_runV (As := [.int x3, .int x1]) (rest := []) ⟨hx, hb, hml, hown, hU⟩ (k_X10_isInside l hE x3 x1 hc2) (cwV 2 hU (fw_gV m_1243 m_1245 ms_22 m_9 m_1246) rfl rfl rfl (by decide +kernel) ⟨(Nat.le_of_ble_eq_true rfl), (Nat.le_of_ble_eq_true rfl)⟩) ⟨fw_blind, fw_recv hK hP (fw_V0 (f := 18) (by decide) (by decide)) rfl rfl, fun U hU9 hW9 => ⟨rfl, fw_pre hK hP hSt hS U hU9 hW9⟩⟩ rfl rfl hl.1 rfl (lv_room (Nat.le_of_ble_eq_true rfl)) dX10_greatest_17 ⟨Nat.zero_le _, Nat.zero_le _⟩) hS (fun H locs hP hS => ?_)
        refine lv_if_eq (tgt := 42) hx hb dX10_greatest_20 (by decide) (fun c3 => ?_) (fun c3 => ?_)
        · rw [if_pos c3] at h
          refine lv_iload_n hx hb dX10_greatest_42 rfl (lv_at hl 2 rfl) ?_
          refine lv_istore_n (lv' := [(2, .int x2), (0, .ref (fw_ad E 0 18)), (1, .int x1), (3, .int x3)]) hx hb dX10_greatest_43 rfl hl (by decide) rfl (fun ls hl => ?_)
          refine lv_iinc (v := (x3 + (1 : Int32))) (lv' := [(3, .int (x3 + (1 : Int32))), (2, .int x2), (0, .ref (fw_ad E 0 18)), (1, .int x1)]) hx hb dX10_greatest_44 hl (k := 3) rfl rfl (by decide) rfl (fun ls hl => ?_)
          refine lv_goto (tgt := 4) hx hb dX10_greatest_47 (by decide) ?_
          exact ih4 x1 x2 (x3 + (1 : Int32)) H locs ls h hP hS (lv_sub hl [2, 3, 1, 0] rfl)
        · rw [if_neg c3] at h
          refine lv_aload_n hx hb dX10_greatest_23 rfl (lv_at hl 0 rfl) ?_
          refine lv_iload_n hx hb dX10_greatest_24 rfl (lv_at hl 3 rfl) ?_
          refine lv_iconst (v := (2 : Int32)) hx hb dX10_greatest_25 (by decide) ?_
          obtain ⟨r4, hc4, h⟩ := fw_b1_e h
          refine fw_ret (va_runV (As := [.int x3, .int (2 : Int32)]) (rest := []) ⟨hx, hb, hml, hown, hU⟩ (k_X10_of l hE x3 (2 : Int32) hc4) (cwV 2 hU (fw_gV m_1235 m_1237 ms_20 m_9 m_1238) rfl rfl rfl (by decide +kernel) ⟨(Nat.le_of_ble_eq_true rfl), (Nat.le_of_ble_eq_true rfl)⟩) ⟨fw_blind, fw_recv hK hP (fw_V0 (f := 18) (by decide) (by decide)) rfl rfl, fun U hU9 hW9 => ⟨rfl, fw_pre hK hP hSt hS U hU9 hW9⟩⟩ rfl rfl hl.1 rfl (lv_room (Nat.le_of_ble_eq_true rfl)) dX10_greatest_26 ⟨Nat.zero_le _, Nat.zero_le _⟩) hS (fun H locs hP hS => ?_)
          refine lv_iload_n hx hb dX10_greatest_29 rfl (lv_at hl 2 rfl) ?_
          refine lv_icmp_le (tgt := 42) hx hb dX10_greatest_30 (by decide) (fun c5 => ?_) (fun c5 => ?_)
          · rw [if_pos c5] at h
            refine lv_iload_n hx hb dX10_greatest_42 rfl (lv_at hl 2 rfl) ?_
            refine lv_istore_n (lv' := [(2, .int x2), (0, .ref (fw_ad E 0 18)), (1, .int x1), (3, .int x3)]) hx hb dX10_greatest_43 rfl hl (by decide) rfl (fun ls hl => ?_)
            refine lv_iinc (v := (x3 + (1 : Int32))) (lv' := [(3, .int (x3 + (1 : Int32))), (2, .int x2), (0, .ref (fw_ad E 0 18)), (1, .int x1)]) hx hb dX10_greatest_44 hl (k := 3) rfl rfl (by decide) rfl (fun ls hl => ?_)
            refine lv_goto (tgt := 4) hx hb dX10_greatest_47 (by decide) ?_
            exact ih4 x1 x2 (x3 + (1 : Int32)) H locs ls h hP hS (lv_sub hl [2, 3, 1, 0] rfl)
          · rw [if_neg c5] at h
            refine lv_aload_n hx hb dX10_greatest_33 rfl (lv_at hl 0 rfl) ?_
            refine lv_iload_n hx hb dX10_greatest_34 rfl (lv_at hl 3 rfl) ?_
            refine lv_iconst (v := (2 : Int32)) hx hb dX10_greatest_35 (by decide) ?_
            obtain ⟨r6, hc6, h⟩ := fw_b1_e h
            refine fw_ret (va_runV (As := [.int x3, .int (2 : Int32)]) (rest := []) ⟨hx, hb, hml, hown, hU⟩ (k_X10_of l hE x3 (2 : Int32) hc6) (cwV 2 hU (fw_gV m_1235 m_1237 ms_20 m_9 m_1238) rfl rfl rfl (by decide +kernel) ⟨(Nat.le_of_ble_eq_true rfl), (Nat.le_of_ble_eq_true rfl)⟩) ⟨fw_blind, fw_recv hK hP (fw_V0 (f := 18) (by decide) (by decide)) rfl rfl, fun U hU9 hW9 => ⟨rfl, fw_pre hK hP hSt hS U hU9 hW9⟩⟩ rfl rfl hl.1 rfl (lv_room (Nat.le_of_ble_eq_true rfl)) dX10_greatest_36 ⟨Nat.zero_le _, Nat.zero_le _⟩) hS (fun H locs hP hS => ?_)
            refine lv_goto (tgt := 43) hx hb dX10_greatest_39 (by decide) ?_
            refine lv_istore_n (lv' := [(2, .int r6), (0, .ref (fw_ad E 0 18)), (1, .int x1), (3, .int x3)]) hx hb dX10_greatest_43 rfl hl (by decide) rfl (fun ls hl => ?_)
            refine lv_iinc (v := (x3 + (1 : Int32))) (lv' := [(3, .int (x3 + (1 : Int32))), (2, .int r6), (0, .ref (fw_ad E 0 18)), (1, .int x1)]) hx hb dX10_greatest_44 hl (k := 3) rfl rfl (by decide) rfl (fun ls hl => ?_)
            refine lv_goto (tgt := 4) hx hb dX10_greatest_47 (by decide) ?_
            exact ih4 x1 r6 (x3 + (1 : Int32)) H locs ls h hP hS (lv_sub hl [2, 3, 1, 0] rfl)
  have EN : ∀ (H : Heap) (locs : List Loc) (ls : Array Slot), fw_P E o d μ H → va_S (fw_A E) s.heap H locs → lv_has ls 4 [(0, .ref (fw_ad E 0 18)), (1, .int x1)] → W p l e (headSpec (fw_ws yX10_greatest cX10_greatest 4 (some .int)) ({ frames := 2, cells := 0, slots := 0, locals := 44 } : Room)).room s m args below meth c H locs 0 0 (MQ below (fw_Q E o d (some (.int r)) μ) args s 0 0 (fw_A E)) (F0 m 0 ls []) := by
    intro H locs ls hP hS hl
    unfold f_X10_greatest at h
    refine lv_iconst (v := (-1 : Int32)) hx hb dX10_greatest_0 (by decide) ?_
    refine lv_istore_n (lv' := [(2, .int (-1 : Int32)), (0, .ref (fw_ad E 0 18)), (1, .int x1)]) hx hb dX10_greatest_1 rfl hl (by decide) rfl (fun ls hl => ?_)
    refine lv_iconst (v := (0 : Int32)) hx hb dX10_greatest_2 (by decide) ?_
    refine lv_istore_n (lv' := [(3, .int (0 : Int32)), (2, .int (-1 : Int32)), (0, .ref (fw_ad E 0 18)), (1, .int x1)]) hx hb dX10_greatest_3 rfl hl (by decide) rfl (fun ls hl => ?_)
    exact L4 1000 x1 (-1 : Int32) (0 : Int32) H locs ls h hP hS (lv_sub hl [2, 3, 1, 0] rfl)
  subst ha
  have hl := lv_entry ([.ref (fw_ad E 0 18), .int x1]) (n := 4) (Nat.le_of_ble_eq_true rfl)
  rw [lg_entry_eq]
  generalize (lg_sl ([.ref (fw_ad E 0 18), .int x1]) ++ List.replicate (4 - (lg_sl ([.ref (fw_ad E 0 18), .int x1])).length) Slot.unset).toArray = ls at hl ⊢
  exact EN s.heap [] ls hP va_S.rf hl
set_option maxHeartbeats 4000000 in
set_option maxRecDepth 100000 in
theorem k_X10_washed (l : Launch) {E : fw_E} {o : Int64} {d : UInt64} (hE : fw_ok E) {μ : fw_M} (x1 : Int32) (x2 : Int32) {r : Int32} (h : f_X10_washed μ x1 x2 = some r) : Met l yX10_washed (fw_ws yX10_washed cX10_washed 3 (some .int)) ({ frames := 1, cells := 0, slots := 0, locals := 22 } : Room) (va_Pc [.ref (fw_ad E 0 18), .int x1, .int x2] (fw_Pre E o d μ)) (fw_Q E o d (some (.int r)) μ) 0 0 (fw_A E) := by
  refine Met.ofW (cc := cX10_washed) (maxL := 3) (ret := (some .int)) (by decide) rfl ?_
  intro p e s m args below meth c s₁ B hml hv
  obtain ⟨ha, hK, hP, hSt⟩ := hv
  have hx := B.exec
  have hb := B.bytes
  have hr := B.returns
  have hts := atoms_spec (ws := fw_ws yX10_washed cX10_washed 3 (some .int)) B.pre
  have hU : ∀ w ∈ fw_U, w.before args s = true := fun w hw => hts w (List.mem_cons_of_mem _ hw)
  have hown : s.vm.findClass RX10 = some m.cls := findClass_of_methodNamed B.named
  have hlocks := B.notSynchronized
  have EN : ∀ (H : Heap) (locs : List Loc) (ls : Array Slot), fw_P E o d μ H → va_S (fw_A E) s.heap H locs → lv_has ls 3 [(0, .ref (fw_ad E 0 18)), (1, .int x1), (2, .int x2)] → W p l e (headSpec (fw_ws yX10_washed cX10_washed 3 (some .int)) ({ frames := 1, cells := 0, slots := 0, locals := 22 } : Room)).room s m args below meth c H locs 0 0 (MQ below (fw_Q E o d (some (.int r)) μ) args s 0 0 (fw_A E)) (F0 m 0 ls []) := by
    intro H locs ls hP hS hl
    unfold f_X10_washed at h
    refine lv_aload_n hx hb dX10_washed_0 rfl (lv_at hl 0 rfl) ?_
    refine lv_iload_n hx hb dX10_washed_1 rfl (lv_at hl 1 rfl) ?_
    refine lv_iconst (v := (3 : Int32)) hx hb dX10_washed_2 (by decide) ?_
    obtain ⟨r1, hc1, h⟩ := fw_b1_e h
    refine fw_ret (va_runV (As := [.int x1, .int (3 : Int32)]) (rest := []) ⟨hx, hb, hml, hown, hU⟩ (k_X10_of l hE x1 (3 : Int32) hc1) (cwV 2 hU (fw_gV m_1235 m_1237 ms_20 m_9 m_1238) rfl rfl rfl (by decide +kernel) ⟨(Nat.le_of_ble_eq_true rfl), (Nat.le_of_ble_eq_true rfl)⟩) ⟨fw_blind, fw_recv hK hP (fw_V0 (f := 18) (by decide) (by decide)) rfl rfl, fun U hU9 hW9 => ⟨rfl, fw_pre hK hP hSt hS U hU9 hW9⟩⟩ rfl rfl hl.1 rfl (lv_room (Nat.le_of_ble_eq_true rfl)) dX10_washed_3 ⟨Nat.zero_le _, Nat.zero_le _⟩) hS (fun H locs hP hS => ?_)
    refine lv_iload_n hx hb dX10_washed_6 rfl (lv_at hl 2 rfl) ?_
    obtain ⟨r2, hc2, h⟩ := fw_b1_e h
    refine fw_ret (va_runS (As := [.int x2]) (rest := [.int r1]) ⟨hx, hb, hml, hown, hU⟩ (k_X10_washable l hE x2 hc2) (va_cwS 1 hU (fw_gS m_1315 m_1316 m_9 m_1317) rfl rfl rfl (by decide +kernel) ⟨(Nat.le_of_ble_eq_true rfl), (Nat.le_of_ble_eq_true rfl)⟩) ⟨fw_blind, fun U hU9 hW9 => ⟨rfl, fw_pre hK hP hSt hS U hU9 hW9⟩⟩ rfl rfl hl.1 rfl (lv_room (Nat.le_of_ble_eq_true rfl)) dX10_washed_7 ⟨Nat.zero_le _, Nat.zero_le _⟩) hS (fun H locs hP hS => ?_)
    refine lv_iconst (v := (-1 : Int32)) hx hb dX10_washed_10 (by decide) ?_
    refine lv_ixor hx hb dX10_washed_11 ?_
    refine lv_iand hx hb dX10_washed_12 ?_
    exact W.iret (v := (r1 &&& (r2 ^^^ (-1 : Int32)))) hx hb hr (fw_er (mk := Value.int) h hP hS) hS.2.2 dX10_washed_13
  subst ha
  have hl := lv_entry ([.ref (fw_ad E 0 18), .int x1, .int x2]) (n := 3) (Nat.le_of_ble_eq_true rfl)
  rw [lg_entry_eq]
  generalize (lg_sl ([.ref (fw_ad E 0 18), .int x1, .int x2]) ++ List.replicate (3 - (lg_sl ([.ref (fw_ad E 0 18), .int x1, .int x2])).length) Slot.unset).toArray = ls at hl ⊢
  exact EN s.heap [] ls hP va_S.rf hl
set_option maxHeartbeats 4000000 in
set_option maxRecDepth 100000 in
theorem k_X10_stained (l : Launch) {E : fw_E} {o : Int64} {d : UInt64} (hE : fw_ok E) {μ : fw_M} (x1 : Int32) (x2 : Int32) (x3 : Int32) {r : Int32} (h : f_X10_stained μ x1 x2 x3 = some r) : Met l yX10_stained (fw_ws yX10_stained cX10_stained 4 (some .int)) ({ frames := 3, cells := 0, slots := 0, locals := 67 } : Room) (va_Pc [.ref (fw_ad E 0 18), .int x1, .int x2, .int x3] (fw_Pre E o d μ)) (fw_Q E o d (some (.int r)) μ) 0 0 (fw_A E) := by
  refine Met.ofW (cc := cX10_stained) (maxL := 4) (ret := (some .int)) (by decide) rfl ?_
  intro p e s m args below meth c s₁ B hml hv
  obtain ⟨ha, hK, hP, hSt⟩ := hv
  have hx := B.exec
  have hb := B.bytes
  have hr := B.returns
  have hts := atoms_spec (ws := fw_ws yX10_stained cX10_stained 4 (some .int)) B.pre
  have hU : ∀ w ∈ fw_U, w.before args s = true := fun w hw => hts w (List.mem_cons_of_mem _ hw)
  have hown : s.vm.findClass RX10 = some m.cls := findClass_of_methodNamed B.named
  have hlocks := B.notSynchronized
  have EN : ∀ (H : Heap) (locs : List Loc) (ls : Array Slot), fw_P E o d μ H → va_S (fw_A E) s.heap H locs → lv_has ls 4 [(0, .ref (fw_ad E 0 18)), (1, .int x1), (2, .int x2), (3, .int x3)] → W p l e (headSpec (fw_ws yX10_stained cX10_stained 4 (some .int)) ({ frames := 3, cells := 0, slots := 0, locals := 67 } : Room)).room s m args below meth c H locs 0 0 (MQ below (fw_Q E o d (some (.int r)) μ) args s 0 0 (fw_A E)) (F0 m 0 ls []) := by
    intro H locs ls hP hS hl
    unfold f_X10_stained at h
    refine lv_aload_n hx hb dX10_stained_0 rfl (lv_at hl 0 rfl) ?_
    refine lv_iload_n hx hb dX10_stained_1 rfl (lv_at hl 1 rfl) ?_
    refine lv_iload_n hx hb dX10_stained_2 rfl (lv_at hl 3 rfl) ?_
    obtain ⟨r1, hc1, h⟩ := fw_b1_e h
    refine fw_ret (va_runV (As := [.int x1, .int x3]) (rest := []) ⟨hx, hb, hml, hown, hU⟩ (k_X10_washed l hE x1 x3 hc1) (cwV 2 hU (fw_gV m_1311 m_1313 ms_32 m_9 m_1314) rfl rfl rfl (by decide +kernel) ⟨(Nat.le_of_ble_eq_true rfl), (Nat.le_of_ble_eq_true rfl)⟩) ⟨fw_blind, fw_recv hK hP (fw_V0 (f := 18) (by decide) (by decide)) rfl rfl, fun U hU9 hW9 => ⟨rfl, fw_pre hK hP hSt hS U hU9 hW9⟩⟩ rfl rfl hl.1 rfl (lv_room (Nat.le_of_ble_eq_true rfl)) dX10_stained_3 ⟨Nat.zero_le _, Nat.zero_le _⟩) hS (fun H locs hP hS => ?_)
    refine lv_iload_n hx hb dX10_stained_6 rfl (lv_at hl 3 rfl) ?_
    refine lv_bipush (v := (120 : Int32)) hx hb dX10_stained_7 (by decide) ?_
    refine lv_icmp_lt (tgt := 31) hx hb dX10_stained_9 (by decide) (fun c2 => ?_) (fun c2 => ?_)
    · rw [if_pos c2] at h
      refine lv_iconst (v := (0 : Int32)) hx hb dX10_stained_31 (by decide) ?_
      refine lv_ior hx hb dX10_stained_32 ?_
      exact W.iret (v := (r1 ||| (0 : Int32))) hx hb hr (fw_er (mk := Value.int) h hP hS) hS.2.2 dX10_stained_33
    · rw [if_neg c2] at h
      refine lv_aload_n hx hb dX10_stained_12 rfl (lv_at hl 0 rfl) ?_
      refine lv_iload_n hx hb dX10_stained_13 rfl (lv_at hl 1 rfl) ?_
      refine lv_iconst (v := (2 : Int32)) hx hb dX10_stained_14 (by decide) ?_
      obtain ⟨r3, hc3, h⟩ := fw_b1_e h
      refine fw_ret (va_runV (As := [.int x1, .int (2 : Int32)]) (rest := [.int r1]) ⟨hx, hb, hml, hown, hU⟩ (k_X10_of l hE x1 (2 : Int32) hc3) (cwV 2 hU (fw_gV m_1235 m_1237 ms_20 m_9 m_1238) rfl rfl rfl (by decide +kernel) ⟨(Nat.le_of_ble_eq_true rfl), (Nat.le_of_ble_eq_true rfl)⟩) ⟨fw_blind, fw_recv hK hP (fw_V0 (f := 18) (by decide) (by decide)) rfl rfl, fun U hU9 hW9 => ⟨rfl, fw_pre hK hP hSt hS U hU9 hW9⟩⟩ rfl rfl hl.1 rfl (lv_room (Nat.le_of_ble_eq_true rfl)) dX10_stained_15 ⟨Nat.zero_le _, Nat.zero_le _⟩) hS (fun H locs hP hS => ?_)
      refine lv_if_ne (tgt := 31) hx hb dX10_stained_18 (by decide) (fun c4 => ?_) (fun c4 => ?_)
      · rw [if_neg c4] at h
        refine lv_iconst (v := (0 : Int32)) hx hb dX10_stained_31 (by decide) ?_
        refine lv_ior hx hb dX10_stained_32 ?_
        exact W.iret (v := (r1 ||| (0 : Int32))) hx hb hr (fw_er (mk := Value.int) h hP hS) hS.2.2 dX10_stained_33
      · rw [if_pos c4] at h
        refine lv_iconst (v := (1 : Int32)) hx hb dX10_stained_21 (by decide) ?_
        refine lv_aload_n hx hb dX10_stained_22 rfl (lv_at hl 0 rfl) ?_
        refine lv_iload_n hx hb dX10_stained_23 rfl (lv_at hl 2 rfl) ?_
        obtain ⟨r5, hc5, h⟩ := fw_b1_e h
        refine fw_ret (va_runV (As := [.int x2]) (rest := [.int (1 : Int32), .int r1]) ⟨hx, hb, hml, hown, hU⟩ (k_X10_greatest l hE x2 hc5) (cwV 1 hU (fw_gV m_1318 m_1320 ms_33 m_9 m_1321) rfl rfl rfl (by decide +kernel) ⟨(Nat.le_of_ble_eq_true rfl), (Nat.le_of_ble_eq_true rfl)⟩) ⟨fw_blind, fw_recv hK hP (fw_V0 (f := 18) (by decide) (by decide)) rfl rfl, fun U hU9 hW9 => ⟨rfl, fw_pre hK hP hSt hS U hU9 hW9⟩⟩ rfl rfl hl.1 rfl (lv_room (Nat.le_of_ble_eq_true rfl)) dX10_stained_24 ⟨Nat.zero_le _, Nat.zero_le _⟩) hS (fun H locs hP hS => ?_)
        refine lv_ishl hx hb dX10_stained_27 ?_
        refine lv_goto (tgt := 32) hx hb dX10_stained_28 (by decide) ?_
        refine lv_ior hx hb dX10_stained_32 ?_
        exact W.iret (v := (r1 ||| ((1 : Int32) <<< (r5 &&& (31 : Int32))))) hx hb hr (fw_er (mk := Value.int) h hP hS) hS.2.2 dX10_stained_33
  subst ha
  have hl := lv_entry ([.ref (fw_ad E 0 18), .int x1, .int x2, .int x3]) (n := 4) (Nat.le_of_ble_eq_true rfl)
  rw [lg_entry_eq]
  generalize (lg_sl ([.ref (fw_ad E 0 18), .int x1, .int x2, .int x3]) ++ List.replicate (4 - (lg_sl ([.ref (fw_ad E 0 18), .int x1, .int x2, .int x3])).length) Slot.unset).toArray = ls at hl ⊢
  exact EN s.heap [] ls hP va_S.rf hl
set_option maxHeartbeats 4000000 in
set_option maxRecDepth 100000 in
theorem k_X10_isLonely (l : Launch) {E : fw_E} {o : Int64} {d : UInt64} (hE : fw_ok E) {μ : fw_M} (x1 : Int32) (x2 : Int32) {r : Int32} (h : f_X10_isLonely μ x1 x2 = some r) : Met l yX10_isLonely (fw_ws yX10_isLonely cX10_isLonely 4 (some .boolean)) ({ frames := 2, cells := 0, slots := 0, locals := 44 } : Room) (va_Pc [.ref (fw_ad E 0 18), .int x1, .int x2] (fw_Pre E o d μ)) (fw_Q E o d (some (.int r)) μ) 0 0 (fw_A E) := by
  refine Met.ofW (cc := cX10_isLonely) (maxL := 4) (ret := (some .boolean)) (by decide) rfl ?_
  intro p e s m args below meth c s₁ B hml hv
  obtain ⟨ha, hK, hP, hSt⟩ := hv
  have hx := B.exec
  have hb := B.bytes
  have hr := B.returns
  have hts := atoms_spec (ws := fw_ws yX10_isLonely cX10_isLonely 4 (some .boolean)) B.pre
  have hU : ∀ w ∈ fw_U, w.before args s = true := fun w hw => hts w (List.mem_cons_of_mem _ hw)
  have hown : s.vm.findClass RX10 = some m.cls := findClass_of_methodNamed B.named
  have hlocks := B.notSynchronized
  have L2 : ∀ (n : Nat) (x1 : Int32) (x2 : Int32) (x3 : Int32) (H : Heap) (locs : List Loc) (ls : Array Slot), f_X10_isLonely_L2 μ n x1 x2 x3 = some r → fw_P E o d μ H → va_S (fw_A E) s.heap H locs → lv_has ls 4 [(0, .ref (fw_ad E 0 18)), (1, .int x1), (2, .int x2), (3, .int x3)] → W p l e (headSpec (fw_ws yX10_isLonely cX10_isLonely 4 (some .boolean)) ({ frames := 2, cells := 0, slots := 0, locals := 44 } : Room)).room s m args below meth c H locs 0 0 (MQ below (fw_Q E o d (some (.int r)) μ) args s 0 0 (fw_A E)) (F0 m 2 ls []) := by
    intro n2
    induction n2 with
    | zero => intro x1 x2 x3 H locs ls h; rw [f_X10_isLonely_L2] at h; cases h
    | succ n2 ih2 =>
      intro x1 x2 x3 H locs ls h hP hS hl
      rw [f_X10_isLonely_L2] at h
      refine lv_iload_n hx hb dX10_isLonely_2 rfl (lv_at hl 3 rfl) ?_
      refine lv_aload_n hx hb dX10_isLonely_3 rfl (lv_at hl 0 rfl) ?_
      refine va_get (D := fw_D E) (ci := 8) (v := .ref (fw_ad E 0 19)) (C := RX10) (T := TX10) (N := 20) hx hb hU inU10 hown hK (fw_at hP (fw_V0 (f := 18) (by decide) (by decide))) 0 rfl rfl 1 (by decide) (hU (Cond.fieldLink RX10 7 "LaundryServiceModel" "s" "[I") m_1118) (fun _ h9 => h9) rfl dX10_isLonely_4 ?_
      refine lv_iconst (v := (0 : Int32)) hx hb dX10_isLonely_7 (by decide) ?_
      refine va_iald (D := fw_D E) hx hb hK (fw_at hP (fw_V0 (f := 19) (by decide) (by decide))) 0 0 rfl rfl (fw_in_e (n := 104) (by decide)) dX10_isLonely_8 ?_
      refine lv_icmp_ge (tgt := 59) hx hb dX10_isLonely_9 (by decide) (fun c1 => ?_) (fun c1 => ?_)
      · rw [if_pos c1] at h
        refine lv_iconst (v := (1 : Int32)) hx hb dX10_isLonely_59 (by decide) ?_
        exact W.zret (v := (1 : Int32)) hx hb hr rfl (fw_er (mk := Value.int) h hP hS) hS.2.2 dX10_isLonely_60
      · rw [if_neg c1] at h
        refine lv_iload_n hx hb dX10_isLonely_12 rfl (lv_at hl 3 rfl) ?_
        refine lv_iload_n hx hb dX10_isLonely_13 rfl (lv_at hl 1 rfl) ?_
        refine lv_icmp_eq (tgt := 53) hx hb dX10_isLonely_14 (by decide) (fun c2 => ?_) (fun c2 => ?_)
        · rw [if_pos c2] at h
          refine lv_iinc (v := (x3 + (1 : Int32))) (lv' := [(3, .int (x3 + (1 : Int32))), (0, .ref (fw_ad E 0 18)), (1, .int x1), (2, .int x2)]) hx hb dX10_isLonely_53 hl (k := 3) rfl rfl (by decide) rfl (fun ls hl => ?_)
          refine lv_goto (tgt := 2) hx hb dX10_isLonely_56 (by decide) ?_
          exact ih2 x1 x2 (x3 + (1 : Int32)) H locs ls h hP hS (lv_sub hl [1, 2, 3, 0] rfl)
        · rw [if_neg c2] at h
          refine lv_aload_n hx hb dX10_isLonely_17 rfl (lv_at hl 0 rfl) ?_
          refine lv_iload_n hx hb dX10_isLonely_18 rfl (lv_at hl 3 rfl) ?_
          refine lv_iload_n hx hb dX10_isLonely_19 rfl (lv_at hl 2 rfl) ?_
          obtain ⟨r3, hc3, h⟩ := fw_b1_e h
          refine fw_ret (va_runV (As := [.int x3, .int x2]) (rest := []) ⟨hx, hb, hml, hown, hU⟩ (k_X10_isInside l hE x3 x2 hc3) (cwV 2 hU (fw_gV m_1243 m_1245 ms_22 m_9 m_1246) rfl rfl rfl (by decide +kernel) ⟨(Nat.le_of_ble_eq_true rfl), (Nat.le_of_ble_eq_true rfl)⟩) ⟨fw_blind, fw_recv hK hP (fw_V0 (f := 18) (by decide) (by decide)) rfl rfl, fun U hU9 hW9 => ⟨rfl, fw_pre hK hP hSt hS U hU9 hW9⟩⟩ rfl rfl hl.1 rfl (lv_room (Nat.le_of_ble_eq_true rfl)) dX10_isLonely_20 ⟨Nat.zero_le _, Nat.zero_le _⟩) hS (fun H locs hP hS => ?_)
          refine lv_if_eq (tgt := 53) hx hb dX10_isLonely_23 (by decide) (fun c4 => ?_) (fun c4 => ?_)
          · rw [if_pos c4] at h
            refine lv_iinc (v := (x3 + (1 : Int32))) (lv' := [(3, .int (x3 + (1 : Int32))), (0, .ref (fw_ad E 0 18)), (1, .int x1), (2, .int x2)]) hx hb dX10_isLonely_53 hl (k := 3) rfl rfl (by decide) rfl (fun ls hl => ?_)
            refine lv_goto (tgt := 2) hx hb dX10_isLonely_56 (by decide) ?_
            exact ih2 x1 x2 (x3 + (1 : Int32)) H locs ls h hP hS (lv_sub hl [1, 2, 3, 0] rfl)
          · rw [if_neg c4] at h
            refine lv_aload_n hx hb dX10_isLonely_26 rfl (lv_at hl 0 rfl) ?_
            refine lv_iload_n hx hb dX10_isLonely_27 rfl (lv_at hl 3 rfl) ?_
            refine lv_iconst (v := (1 : Int32)) hx hb dX10_isLonely_28 (by decide) ?_
            obtain ⟨r5, hc5, h⟩ := fw_b1_e h
            refine fw_ret (va_runV (As := [.int x3, .int (1 : Int32)]) (rest := []) ⟨hx, hb, hml, hown, hU⟩ (k_X10_of l hE x3 (1 : Int32) hc5) (cwV 2 hU (fw_gV m_1235 m_1237 ms_20 m_9 m_1238) rfl rfl rfl (by decide +kernel) ⟨(Nat.le_of_ble_eq_true rfl), (Nat.le_of_ble_eq_true rfl)⟩) ⟨fw_blind, fw_recv hK hP (fw_V0 (f := 18) (by decide) (by decide)) rfl rfl, fun U hU9 hW9 => ⟨rfl, fw_pre hK hP hSt hS U hU9 hW9⟩⟩ rfl rfl hl.1 rfl (lv_room (Nat.le_of_ble_eq_true rfl)) dX10_isLonely_29 ⟨Nat.zero_le _, Nat.zero_le _⟩) hS (fun H locs hP hS => ?_)
            refine lv_iconst (v := (1 : Int32)) hx hb dX10_isLonely_32 (by decide) ?_
            refine lv_icmp_ne (tgt := 53) hx hb dX10_isLonely_33 (by decide) (fun c6 => ?_) (fun c6 => ?_)
            · rw [if_neg c6] at h
              refine lv_iinc (v := (x3 + (1 : Int32))) (lv' := [(3, .int (x3 + (1 : Int32))), (0, .ref (fw_ad E 0 18)), (1, .int x1), (2, .int x2)]) hx hb dX10_isLonely_53 hl (k := 3) rfl rfl (by decide) rfl (fun ls hl => ?_)
              refine lv_goto (tgt := 2) hx hb dX10_isLonely_56 (by decide) ?_
              exact ih2 x1 x2 (x3 + (1 : Int32)) H locs ls h hP hS (lv_sub hl [1, 2, 3, 0] rfl)
            · rw [if_pos c6] at h
              refine lv_aload_n hx hb dX10_isLonely_36 rfl (lv_at hl 0 rfl) ?_
              refine lv_iload_n hx hb dX10_isLonely_37 rfl (lv_at hl 3 rfl) ?_
              refine lv_iconst (v := (2 : Int32)) hx hb dX10_isLonely_38 (by decide) ?_
              obtain ⟨r7, hc7, h⟩ := fw_b1_e h
              refine fw_ret (va_runV (As := [.int x3, .int (2 : Int32)]) (rest := []) ⟨hx, hb, hml, hown, hU⟩ (k_X10_of l hE x3 (2 : Int32) hc7) (cwV 2 hU (fw_gV m_1235 m_1237 ms_20 m_9 m_1238) rfl rfl rfl (by decide +kernel) ⟨(Nat.le_of_ble_eq_true rfl), (Nat.le_of_ble_eq_true rfl)⟩) ⟨fw_blind, fw_recv hK hP (fw_V0 (f := 18) (by decide) (by decide)) rfl rfl, fun U hU9 hW9 => ⟨rfl, fw_pre hK hP hSt hS U hU9 hW9⟩⟩ rfl rfl hl.1 rfl (lv_room (Nat.le_of_ble_eq_true rfl)) dX10_isLonely_39 ⟨Nat.zero_le _, Nat.zero_le _⟩) hS (fun H locs hP hS => ?_)
              refine lv_aload_n hx hb dX10_isLonely_42 rfl (lv_at hl 0 rfl) ?_
              refine lv_iload_n hx hb dX10_isLonely_43 rfl (lv_at hl 1 rfl) ?_
              refine lv_iconst (v := (2 : Int32)) hx hb dX10_isLonely_44 (by decide) ?_
              obtain ⟨r8, hc8, h⟩ := fw_b1_e h
              refine fw_ret (va_runV (As := [.int x1, .int (2 : Int32)]) (rest := [.int r7]) ⟨hx, hb, hml, hown, hU⟩ (k_X10_of l hE x1 (2 : Int32) hc8) (cwV 2 hU (fw_gV m_1235 m_1237 ms_20 m_9 m_1238) rfl rfl rfl (by decide +kernel) ⟨(Nat.le_of_ble_eq_true rfl), (Nat.le_of_ble_eq_true rfl)⟩) ⟨fw_blind, fw_recv hK hP (fw_V0 (f := 18) (by decide) (by decide)) rfl rfl, fun U hU9 hW9 => ⟨rfl, fw_pre hK hP hSt hS U hU9 hW9⟩⟩ rfl rfl hl.1 rfl (lv_room (Nat.le_of_ble_eq_true rfl)) dX10_isLonely_45 ⟨Nat.zero_le _, Nat.zero_le _⟩) hS (fun H locs hP hS => ?_)
              refine lv_icmp_ne (tgt := 53) hx hb dX10_isLonely_48 (by decide) (fun c9 => ?_) (fun c9 => ?_)
              · rw [if_neg c9] at h
                refine lv_iinc (v := (x3 + (1 : Int32))) (lv' := [(3, .int (x3 + (1 : Int32))), (0, .ref (fw_ad E 0 18)), (1, .int x1), (2, .int x2)]) hx hb dX10_isLonely_53 hl (k := 3) rfl rfl (by decide) rfl (fun ls hl => ?_)
                refine lv_goto (tgt := 2) hx hb dX10_isLonely_56 (by decide) ?_
                exact ih2 x1 x2 (x3 + (1 : Int32)) H locs ls h hP hS (lv_sub hl [1, 2, 3, 0] rfl)
              · rw [if_pos c9] at h
                refine lv_iconst (v := (0 : Int32)) hx hb dX10_isLonely_51 (by decide) ?_
                exact W.zret (v := (0 : Int32)) hx hb hr rfl (fw_er (mk := Value.int) h hP hS) hS.2.2 dX10_isLonely_52
  have EN : ∀ (H : Heap) (locs : List Loc) (ls : Array Slot), fw_P E o d μ H → va_S (fw_A E) s.heap H locs → lv_has ls 4 [(0, .ref (fw_ad E 0 18)), (1, .int x1), (2, .int x2)] → W p l e (headSpec (fw_ws yX10_isLonely cX10_isLonely 4 (some .boolean)) ({ frames := 2, cells := 0, slots := 0, locals := 44 } : Room)).room s m args below meth c H locs 0 0 (MQ below (fw_Q E o d (some (.int r)) μ) args s 0 0 (fw_A E)) (F0 m 0 ls []) := by
    intro H locs ls hP hS hl
    unfold f_X10_isLonely at h
    refine lv_iconst (v := (0 : Int32)) hx hb dX10_isLonely_0 (by decide) ?_
    refine lv_istore_n (lv' := [(3, .int (0 : Int32)), (0, .ref (fw_ad E 0 18)), (1, .int x1), (2, .int x2)]) hx hb dX10_isLonely_1 rfl hl (by decide) rfl (fun ls hl => ?_)
    exact L2 1000 x1 x2 (0 : Int32) H locs ls h hP hS (lv_sub hl [1, 2, 3, 0] rfl)
  subst ha
  have hl := lv_entry ([.ref (fw_ad E 0 18), .int x1, .int x2]) (n := 4) (Nat.le_of_ble_eq_true rfl)
  rw [lg_entry_eq]
  generalize (lg_sl ([.ref (fw_ad E 0 18), .int x1, .int x2]) ++ List.replicate (4 - (lg_sl ([.ref (fw_ad E 0 18), .int x1, .int x2])).length) Slot.unset).toArray = ls at hl ⊢
  exact EN s.heap [] ls hP va_S.rf hl
set_option maxHeartbeats 4000000 in
set_option maxRecDepth 100000 in
theorem k_X10_isLost (l : Launch) {E : fw_E} {o : Int64} {d : UInt64} (hE : fw_ok E) {μ : fw_M} (x1 : Int32) (x2 : Int32) (x3 : Int32) {r : Int32} (h : f_X10_isLost μ x1 x2 x3 = some r) : Met l yX10_isLost (fw_ws yX10_isLost cX10_isLost 4 (some .boolean)) ({ frames := 4, cells := 0, slots := 0, locals := 90 } : Room) (va_Pc [.ref (fw_ad E 0 18), .int x1, .int x2, .int x3] (fw_Pre E o d μ)) (fw_Q E o d (some (.int r)) μ) 0 0 (fw_A E) := by
  refine Met.ofW (cc := cX10_isLost) (maxL := 4) (ret := (some .boolean)) (by decide) rfl ?_
  intro p e s m args below meth c s₁ B hml hv
  obtain ⟨ha, hK, hP, hSt⟩ := hv
  have hx := B.exec
  have hb := B.bytes
  have hr := B.returns
  have hts := atoms_spec (ws := fw_ws yX10_isLost cX10_isLost 4 (some .boolean)) B.pre
  have hU : ∀ w ∈ fw_U, w.before args s = true := fun w hw => hts w (List.mem_cons_of_mem _ hw)
  have hown : s.vm.findClass RX10 = some m.cls := findClass_of_methodNamed B.named
  have hlocks := B.notSynchronized
  have EN : ∀ (H : Heap) (locs : List Loc) (ls : Array Slot), fw_P E o d μ H → va_S (fw_A E) s.heap H locs → lv_has ls 4 [(0, .ref (fw_ad E 0 18)), (1, .int x1), (2, .int x2), (3, .int x3)] → W p l e (headSpec (fw_ws yX10_isLost cX10_isLost 4 (some .boolean)) ({ frames := 4, cells := 0, slots := 0, locals := 90 } : Room)).room s m args below meth c H locs 0 0 (MQ below (fw_Q E o d (some (.int r)) μ) args s 0 0 (fw_A E)) (F0 m 0 ls []) := by
    intro H locs ls hP hS hl
    unfold f_X10_isLost at h
    refine lv_aload_n hx hb dX10_isLost_0 rfl (lv_at hl 0 rfl) ?_
    refine lv_iload_n hx hb dX10_isLost_1 rfl (lv_at hl 1 rfl) ?_
    refine lv_iconst (v := (1 : Int32)) hx hb dX10_isLost_2 (by decide) ?_
    obtain ⟨r1, hc1, h⟩ := fw_b1_e h
    refine fw_ret (va_runV (As := [.int x1, .int (1 : Int32)]) (rest := []) ⟨hx, hb, hml, hown, hU⟩ (k_X10_of l hE x1 (1 : Int32) hc1) (cwV 2 hU (fw_gV m_1235 m_1237 ms_20 m_9 m_1238) rfl rfl rfl (by decide +kernel) ⟨(Nat.le_of_ble_eq_true rfl), (Nat.le_of_ble_eq_true rfl)⟩) ⟨fw_blind, fw_recv hK hP (fw_V0 (f := 18) (by decide) (by decide)) rfl rfl, fun U hU9 hW9 => ⟨rfl, fw_pre hK hP hSt hS U hU9 hW9⟩⟩ rfl rfl hl.1 rfl (lv_room (Nat.le_of_ble_eq_true rfl)) dX10_isLost_3 ⟨Nat.zero_le _, Nat.zero_le _⟩) hS (fun H locs hP hS => ?_)
    refine lv_iconst (v := (1 : Int32)) hx hb dX10_isLost_6 (by decide) ?_
    refine lv_icmp_ne (tgt := 44) hx hb dX10_isLost_7 (by decide) (fun c2 => ?_) (fun c2 => ?_)
    · rw [if_neg c2] at h
      refine lv_iconst (v := (0 : Int32)) hx hb dX10_isLost_44 (by decide) ?_
      exact W.zret (v := (0 : Int32)) hx hb hr rfl (fw_er (mk := Value.int) h hP hS) hS.2.2 dX10_isLost_45
    · rw [if_pos c2] at h
      refine lv_aload_n hx hb dX10_isLost_10 rfl (lv_at hl 0 rfl) ?_
      refine lv_iload_n hx hb dX10_isLost_11 rfl (lv_at hl 2 rfl) ?_
      obtain ⟨r3, hc3, h⟩ := fw_b1_e h
      refine fw_ret (va_runV (As := [.int x2]) (rest := []) ⟨hx, hb, hml, hown, hU⟩ (k_X10_held l hE x2 hc3) (cwV 1 hU (fw_gV m_1239 m_1241 ms_21 m_9 m_1242) rfl rfl rfl (by decide +kernel) ⟨(Nat.le_of_ble_eq_true rfl), (Nat.le_of_ble_eq_true rfl)⟩) ⟨fw_blind, fw_recv hK hP (fw_V0 (f := 18) (by decide) (by decide)) rfl rfl, fun U hU9 hW9 => ⟨rfl, fw_pre hK hP hSt hS U hU9 hW9⟩⟩ rfl rfl hl.1 rfl (lv_room (Nat.le_of_ble_eq_true rfl)) dX10_isLost_12 ⟨Nat.zero_le _, Nat.zero_le _⟩) hS (fun H locs hP hS => ?_)
      refine lv_iconst (v := (2 : Int32)) hx hb dX10_isLost_15 (by decide) ?_
      refine lv_irem hx hb dX10_isLost_16 (by decide) ?_
      refine lv_iconst (v := (1 : Int32)) hx hb dX10_isLost_17 (by decide) ?_
      refine lv_icmp_ne (tgt := 44) hx hb dX10_isLost_18 (by decide) (fun c4 => ?_) (fun c4 => ?_)
      · rw [if_neg c4] at h
        refine lv_iconst (v := (0 : Int32)) hx hb dX10_isLost_44 (by decide) ?_
        exact W.zret (v := (0 : Int32)) hx hb hr rfl (fw_er (mk := Value.int) h hP hS) hS.2.2 dX10_isLost_45
      · rw [if_pos c4] at h
        refine lv_aload_n hx hb dX10_isLost_21 rfl (lv_at hl 0 rfl) ?_
        refine lv_iload_n hx hb dX10_isLost_22 rfl (lv_at hl 1 rfl) ?_
        refine lv_iload_n hx hb dX10_isLost_23 rfl (lv_at hl 2 rfl) ?_
        refine lv_iload_n hx hb dX10_isLost_24 rfl (lv_at hl 3 rfl) ?_
        obtain ⟨r5, hc5, h⟩ := fw_b1_e h
        refine fw_ret (va_runV (As := [.int x1, .int x2, .int x3]) (rest := []) ⟨hx, hb, hml, hown, hU⟩ (k_X10_stained l hE x1 x2 x3 hc5) (cwV 3 hU (fw_gV m_1307 m_1309 ms_31 m_9 m_1310) rfl rfl rfl (by decide +kernel) ⟨(Nat.le_of_ble_eq_true rfl), (Nat.le_of_ble_eq_true rfl)⟩) ⟨fw_blind, fw_recv hK hP (fw_V0 (f := 18) (by decide) (by decide)) rfl rfl, fun U hU9 hW9 => ⟨rfl, fw_pre hK hP hSt hS U hU9 hW9⟩⟩ rfl rfl hl.1 rfl (lv_room (Nat.le_of_ble_eq_true rfl)) dX10_isLost_25 ⟨Nat.zero_le _, Nat.zero_le _⟩) hS (fun H locs hP hS => ?_)
        refine lv_if_ne (tgt := 44) hx hb dX10_isLost_28 (by decide) (fun c6 => ?_) (fun c6 => ?_)
        · rw [if_neg c6] at h
          refine lv_iconst (v := (0 : Int32)) hx hb dX10_isLost_44 (by decide) ?_
          exact W.zret (v := (0 : Int32)) hx hb hr rfl (fw_er (mk := Value.int) h hP hS) hS.2.2 dX10_isLost_45
        · rw [if_pos c6] at h
          refine lv_aload_n hx hb dX10_isLost_31 rfl (lv_at hl 0 rfl) ?_
          refine lv_iload_n hx hb dX10_isLost_32 rfl (lv_at hl 1 rfl) ?_
          refine lv_iload_n hx hb dX10_isLost_33 rfl (lv_at hl 2 rfl) ?_
          obtain ⟨r7, hc7, h⟩ := fw_b1_e h
          refine fw_ret (va_runV (As := [.int x1, .int x2]) (rest := []) ⟨hx, hb, hml, hown, hU⟩ (k_X10_isLonely l hE x1 x2 hc7) (cwV 2 hU (fw_gV m_1322 m_1324 ms_34 m_9 m_1325) rfl rfl rfl (by decide +kernel) ⟨(Nat.le_of_ble_eq_true rfl), (Nat.le_of_ble_eq_true rfl)⟩) ⟨fw_blind, fw_recv hK hP (fw_V0 (f := 18) (by decide) (by decide)) rfl rfl, fun U hU9 hW9 => ⟨rfl, fw_pre hK hP hSt hS U hU9 hW9⟩⟩ rfl rfl hl.1 rfl (lv_room (Nat.le_of_ble_eq_true rfl)) dX10_isLost_34 ⟨Nat.zero_le _, Nat.zero_le _⟩) hS (fun H locs hP hS => ?_)
          refine lv_if_eq (tgt := 44) hx hb dX10_isLost_37 (by decide) (fun c8 => ?_) (fun c8 => ?_)
          · rw [if_pos c8] at h
            refine lv_iconst (v := (0 : Int32)) hx hb dX10_isLost_44 (by decide) ?_
            exact W.zret (v := (0 : Int32)) hx hb hr rfl (fw_er (mk := Value.int) h hP hS) hS.2.2 dX10_isLost_45
          · rw [if_neg c8] at h
            refine lv_iconst (v := (1 : Int32)) hx hb dX10_isLost_40 (by decide) ?_
            refine lv_goto (tgt := 45) hx hb dX10_isLost_41 (by decide) ?_
            exact W.zret (v := (1 : Int32)) hx hb hr rfl (fw_er (mk := Value.int) h hP hS) hS.2.2 dX10_isLost_45
  subst ha
  have hl := lv_entry ([.ref (fw_ad E 0 18), .int x1, .int x2, .int x3]) (n := 4) (Nat.le_of_ble_eq_true rfl)
  rw [lg_entry_eq]
  generalize (lg_sl ([.ref (fw_ad E 0 18), .int x1, .int x2, .int x3]) ++ List.replicate (4 - (lg_sl ([.ref (fw_ad E 0 18), .int x1, .int x2, .int x3])).length) Slot.unset).toArray = ls at hl ⊢
  exact EN s.heap [] ls hP va_S.rf hl
set_option maxHeartbeats 4000000 in
set_option maxRecDepth 100000 in
theorem k_X10_harm (l : Launch) {E : fw_E} {o : Int64} {d : UInt64} (hE : fw_ok E) {μ : fw_M} (x1 : Int32) (x2 : Int32) {r : Int32} (h : f_X10_harm μ x1 x2 = some r) : Met l yX10_harm (fw_ws yX10_harm cX10_harm 5 (some .int)) ({ frames := 5, cells := 0, slots := 0, locals := 113 } : Room) (va_Pc [.ref (fw_ad E 0 18), .int x1, .int x2] (fw_Pre E o d μ)) (fw_Q E o d (some (.int r)) μ) 0 0 (fw_A E) := by
  refine Met.ofW (cc := cX10_harm) (maxL := 5) (ret := (some .int)) (by decide) rfl ?_
  intro p e s m args below meth c s₁ B hml hv
  obtain ⟨ha, hK, hP, hSt⟩ := hv
  have hx := B.exec
  have hb := B.bytes
  have hr := B.returns
  have hts := atoms_spec (ws := fw_ws yX10_harm cX10_harm 5 (some .int)) B.pre
  have hU : ∀ w ∈ fw_U, w.before args s = true := fun w hw => hts w (List.mem_cons_of_mem _ hw)
  have hown : s.vm.findClass RX10 = some m.cls := findClass_of_methodNamed B.named
  have hlocks := B.notSynchronized
  have L5 : ∀ (n : Nat) (x1 : Int32) (x2 : Int32) (x3 : Int32) (x4 : Int32) (H : Heap) (locs : List Loc) (ls : Array Slot), f_X10_harm_L5 μ n x1 x2 x3 x4 = some r → fw_P E o d μ H → va_S (fw_A E) s.heap H locs → lv_has ls 5 [(0, .ref (fw_ad E 0 18)), (1, .int x1), (2, .int x2), (3, .int x3), (4, .int x4)] → W p l e (headSpec (fw_ws yX10_harm cX10_harm 5 (some .int)) ({ frames := 5, cells := 0, slots := 0, locals := 113 } : Room)).room s m args below meth c H locs 0 0 (MQ below (fw_Q E o d (some (.int r)) μ) args s 0 0 (fw_A E)) (F0 m 5 ls []) := by
    intro n5
    induction n5 with
    | zero => intro x1 x2 x3 x4 H locs ls h; rw [f_X10_harm_L5] at h; cases h
    | succ n5 ih5 =>
      have J63 : ∀ (x1 : Int32) (x2 : Int32) (x4 : Int32) (s0 : Int32) (s1 : Int32) (s2 : Int32) (H : Heap) (locs : List Loc) (ls : Array Slot), f_X10_harm_J63 (f_X10_harm_L5 μ n5) μ x1 x2 x4 s0 s1 s2 = some r → fw_P E o d μ H → va_S (fw_A E) s.heap H locs → lv_has ls 5 [(0, .ref (fw_ad E 0 18)), (1, .int x1), (2, .int x2), (4, .int x4)] → W p l e (headSpec (fw_ws yX10_harm cX10_harm 5 (some .int)) ({ frames := 5, cells := 0, slots := 0, locals := 113 } : Room)).room s m args below meth c H locs 0 0 (MQ below (fw_Q E o d (some (.int r)) μ) args s 0 0 (fw_A E)) (F0 m 63 ls [.int s2, .int s1, .int s0]) := by
        intro x1 x2 x4 s0 s1 s2 H locs ls h hP hS hl
        unfold f_X10_harm_J63 at h
        refine lv_iadd hx hb dX10_harm_63 ?_
        refine lv_aload_n hx hb dX10_harm_64 rfl (lv_at hl 0 rfl) ?_
        refine lv_iload hx hb dX10_harm_65 (lv_at hl 3 rfl) ?_
        refine lv_iload_n hx hb dX10_harm_67 rfl (lv_at hl 1 rfl) ?_
        refine lv_iload_n hx hb dX10_harm_68 rfl (lv_at hl 2 rfl) ?_
        obtain ⟨r9, hc9, h⟩ := fw_b1_e h
        refine fw_ret (va_runV (As := [.int x4, .int x1, .int x2]) (rest := [.int (s1 + s2), .int s0]) ⟨hx, hb, hml, hown, hU⟩ (k_X10_isLost l hE x4 x1 x2 hc9) (cwV 3 hU (fw_gV m_1303 m_1305 ms_30 m_9 m_1306) rfl rfl rfl (by decide +kernel) ⟨(Nat.le_of_ble_eq_true rfl), (Nat.le_of_ble_eq_true rfl)⟩) ⟨fw_blind, fw_recv hK hP (fw_V0 (f := 18) (by decide) (by decide)) rfl rfl, fun U hU9 hW9 => ⟨rfl, fw_pre hK hP hSt hS U hU9 hW9⟩⟩ rfl rfl hl.1 rfl (lv_room (Nat.le_of_ble_eq_true rfl)) dX10_harm_69 ⟨Nat.zero_le _, Nat.zero_le _⟩) hS (fun H locs hP hS => ?_)
        refine lv_if_eq (tgt := 80) hx hb dX10_harm_72 (by decide) (fun c10 => ?_) (fun c10 => ?_)
        · rw [if_pos c10] at h
          refine lv_iconst (v := (0 : Int32)) hx hb dX10_harm_80 (by decide) ?_
          refine lv_iadd hx hb dX10_harm_81 ?_
          refine lv_iadd hx hb dX10_harm_82 ?_
          refine lv_istore_n (lv' := [(3, .int (s0 + ((s1 + s2) + (0 : Int32)))), (0, .ref (fw_ad E 0 18)), (1, .int x1), (2, .int x2), (4, .int x4)]) hx hb dX10_harm_83 rfl hl (by decide) rfl (fun ls hl => ?_)
          refine lv_iinc (v := (x4 + (1 : Int32))) (lv' := [(4, .int (x4 + (1 : Int32))), (3, .int (s0 + ((s1 + s2) + (0 : Int32)))), (0, .ref (fw_ad E 0 18)), (1, .int x1), (2, .int x2)]) hx hb dX10_harm_84 hl (k := 4) rfl rfl (by decide) rfl (fun ls hl => ?_)
          refine lv_goto (tgt := 5) hx hb dX10_harm_87 (by decide) ?_
          exact ih5 x1 x2 (s0 + ((s1 + s2) + (0 : Int32))) (x4 + (1 : Int32)) H locs ls h hP hS (lv_sub hl [2, 3, 4, 1, 0] rfl)
        · rw [if_neg c10] at h
          refine lv_bipush (v := (10 : Int32)) hx hb dX10_harm_75 (by decide) ?_
          refine lv_goto (tgt := 81) hx hb dX10_harm_77 (by decide) ?_
          refine lv_iadd hx hb dX10_harm_81 ?_
          refine lv_iadd hx hb dX10_harm_82 ?_
          refine lv_istore_n (lv' := [(3, .int (s0 + ((s1 + s2) + (10 : Int32)))), (0, .ref (fw_ad E 0 18)), (1, .int x1), (2, .int x2), (4, .int x4)]) hx hb dX10_harm_83 rfl hl (by decide) rfl (fun ls hl => ?_)
          refine lv_iinc (v := (x4 + (1 : Int32))) (lv' := [(4, .int (x4 + (1 : Int32))), (3, .int (s0 + ((s1 + s2) + (10 : Int32)))), (0, .ref (fw_ad E 0 18)), (1, .int x1), (2, .int x2)]) hx hb dX10_harm_84 hl (k := 4) rfl rfl (by decide) rfl (fun ls hl => ?_)
          refine lv_goto (tgt := 5) hx hb dX10_harm_87 (by decide) ?_
          exact ih5 x1 x2 (s0 + ((s1 + s2) + (10 : Int32))) (x4 + (1 : Int32)) H locs ls h hP hS (lv_sub hl [2, 3, 4, 1, 0] rfl)
      intro x1 x2 x3 x4 H locs ls h hP hS hl
      rw [f_X10_harm_L5] at h
      refine lv_iload hx hb dX10_harm_5 (lv_at hl 4 rfl) ?_
      refine lv_aload_n hx hb dX10_harm_7 rfl (lv_at hl 0 rfl) ?_
      refine va_get (D := fw_D E) (ci := 8) (v := .ref (fw_ad E 0 19)) (C := RX10) (T := TX10) (N := 20) hx hb hU inU10 hown hK (fw_at hP (fw_V0 (f := 18) (by decide) (by decide))) 0 rfl rfl 1 (by decide) (hU (Cond.fieldLink RX10 7 "LaundryServiceModel" "s" "[I") m_1118) (fun _ h9 => h9) rfl dX10_harm_8 ?_
      refine lv_iconst (v := (0 : Int32)) hx hb dX10_harm_11 (by decide) ?_
      refine va_iald (D := fw_D E) hx hb hK (fw_at hP (fw_V0 (f := 19) (by decide) (by decide))) 0 0 rfl rfl (fw_in_e (n := 104) (by decide)) dX10_harm_12 ?_
      refine lv_icmp_ge (tgt := 90) hx hb dX10_harm_13 (by decide) (fun c1 => ?_) (fun c1 => ?_)
      · rw [if_pos c1] at h
        refine lv_iload_n hx hb dX10_harm_90 rfl (lv_at hl 3 rfl) ?_
        exact W.iret (v := x3) hx hb hr (fw_er (mk := Value.int) h hP hS) hS.2.2 dX10_harm_91
      · rw [if_neg c1] at h
        refine lv_aload_n hx hb dX10_harm_16 rfl (lv_at hl 0 rfl) ?_
        refine lv_iload hx hb dX10_harm_17 (lv_at hl 4 rfl) ?_
        refine lv_iload_n hx hb dX10_harm_19 rfl (lv_at hl 1 rfl) ?_
        obtain ⟨r2, hc2, h⟩ := fw_b1_e h
        refine fw_ret (va_runV (As := [.int x4, .int x1]) (rest := []) ⟨hx, hb, hml, hown, hU⟩ (k_X10_isInside l hE x4 x1 hc2) (cwV 2 hU (fw_gV m_1243 m_1245 ms_22 m_9 m_1246) rfl rfl rfl (by decide +kernel) ⟨(Nat.le_of_ble_eq_true rfl), (Nat.le_of_ble_eq_true rfl)⟩) ⟨fw_blind, fw_recv hK hP (fw_V0 (f := 18) (by decide) (by decide)) rfl rfl, fun U hU9 hW9 => ⟨rfl, fw_pre hK hP hSt hS U hU9 hW9⟩⟩ rfl rfl hl.1 rfl (lv_room (Nat.le_of_ble_eq_true rfl)) dX10_harm_20 ⟨Nat.zero_le _, Nat.zero_le _⟩) hS (fun H locs hP hS => ?_)
        refine lv_if_ne (tgt := 29) hx hb dX10_harm_23 (by decide) (fun c3 => ?_) (fun c3 => ?_)
        · rw [if_neg c3] at h
          refine lv_iload_n hx hb dX10_harm_29 rfl (lv_at hl 3 rfl) ?_
          refine lv_aload_n hx hb dX10_harm_30 rfl (lv_at hl 0 rfl) ?_
          refine lv_iload hx hb dX10_harm_31 (lv_at hl 4 rfl) ?_
          refine lv_iload_n hx hb dX10_harm_33 rfl (lv_at hl 2 rfl) ?_
          obtain ⟨r4, hc4, h⟩ := fw_b1_e h
          refine fw_ret (va_runV (As := [.int x4, .int x2]) (rest := [.int x3]) ⟨hx, hb, hml, hown, hU⟩ (k_X10_washed l hE x4 x2 hc4) (cwV 2 hU (fw_gV m_1311 m_1313 ms_32 m_9 m_1314) rfl rfl rfl (by decide +kernel) ⟨(Nat.le_of_ble_eq_true rfl), (Nat.le_of_ble_eq_true rfl)⟩) ⟨fw_blind, fw_recv hK hP (fw_V0 (f := 18) (by decide) (by decide)) rfl rfl, fun U hU9 hW9 => ⟨rfl, fw_pre hK hP hSt hS U hU9 hW9⟩⟩ rfl rfl hl.1 rfl (lv_room (Nat.le_of_ble_eq_true rfl)) dX10_harm_34 ⟨Nat.zero_le _, Nat.zero_le _⟩) hS (fun H locs hP hS => ?_)
          obtain ⟨r5, hc5, h⟩ := fw_b1_e h
          refine fw_ret (va_runS (As := [.int r4]) (rest := [.int x3]) ⟨hx, hb, hml, hown, hU⟩ (k_X10_bits l hE r4 hc5) (va_cwS 1 hU (fw_gS m_1354 m_1355 m_9 m_1356) rfl rfl rfl (by decide +kernel) ⟨(Nat.le_of_ble_eq_true rfl), (Nat.le_of_ble_eq_true rfl)⟩) ⟨fw_blind, fun U hU9 hW9 => ⟨rfl, fw_pre hK hP hSt hS U hU9 hW9⟩⟩ rfl rfl hl.1 rfl (lv_room (Nat.le_of_ble_eq_true rfl)) dX10_harm_37 ⟨Nat.zero_le _, Nat.zero_le _⟩) hS (fun H locs hP hS => ?_)
          refine lv_aload_n hx hb dX10_harm_40 rfl (lv_at hl 0 rfl) ?_
          refine lv_iload hx hb dX10_harm_41 (lv_at hl 4 rfl) ?_
          refine lv_iload_n hx hb dX10_harm_43 rfl (lv_at hl 1 rfl) ?_
          refine lv_iload_n hx hb dX10_harm_44 rfl (lv_at hl 2 rfl) ?_
          obtain ⟨r6, hc6, h⟩ := fw_b1_e h
          refine fw_ret (va_runV (As := [.int x4, .int x1, .int x2]) (rest := [.int r5, .int x3]) ⟨hx, hb, hml, hown, hU⟩ (k_X10_stained l hE x4 x1 x2 hc6) (cwV 3 hU (fw_gV m_1307 m_1309 ms_31 m_9 m_1310) rfl rfl rfl (by decide +kernel) ⟨(Nat.le_of_ble_eq_true rfl), (Nat.le_of_ble_eq_true rfl)⟩) ⟨fw_blind, fw_recv hK hP (fw_V0 (f := 18) (by decide) (by decide)) rfl rfl, fun U hU9 hW9 => ⟨rfl, fw_pre hK hP hSt hS U hU9 hW9⟩⟩ rfl rfl hl.1 rfl (lv_room (Nat.le_of_ble_eq_true rfl)) dX10_harm_45 ⟨Nat.zero_le _, Nat.zero_le _⟩) hS (fun H locs hP hS => ?_)
          refine lv_aload_n hx hb dX10_harm_48 rfl (lv_at hl 0 rfl) ?_
          refine lv_iload hx hb dX10_harm_49 (lv_at hl 4 rfl) ?_
          refine lv_iload_n hx hb dX10_harm_51 rfl (lv_at hl 2 rfl) ?_
          obtain ⟨r7, hc7, h⟩ := fw_b1_e h
          refine fw_ret (va_runV (As := [.int x4, .int x2]) (rest := [.int r6, .int r5, .int x3]) ⟨hx, hb, hml, hown, hU⟩ (k_X10_washed l hE x4 x2 hc7) (cwV 2 hU (fw_gV m_1311 m_1313 ms_32 m_9 m_1314) rfl rfl rfl (by decide +kernel) ⟨(Nat.le_of_ble_eq_true rfl), (Nat.le_of_ble_eq_true rfl)⟩) ⟨fw_blind, fw_recv hK hP (fw_V0 (f := 18) (by decide) (by decide)) rfl rfl, fun U hU9 hW9 => ⟨rfl, fw_pre hK hP hSt hS U hU9 hW9⟩⟩ rfl rfl hl.1 rfl (lv_room (Nat.le_of_ble_eq_true rfl)) dX10_harm_52 ⟨Nat.zero_le _, Nat.zero_le _⟩) hS (fun H locs hP hS => ?_)
          refine lv_icmp_ne (tgt := 62) hx hb dX10_harm_55 (by decide) (fun c8 => ?_) (fun c8 => ?_)
          · rw [if_neg c8] at h
            refine lv_iconst (v := (3 : Int32)) hx hb dX10_harm_62 (by decide) ?_
            exact J63 x1 x2 x4 x3 r5 (3 : Int32) H locs ls h hP hS (lv_sub hl [0, 1, 2, 4] rfl)
          · rw [if_pos c8] at h
            refine lv_iconst (v := (0 : Int32)) hx hb dX10_harm_58 (by decide) ?_
            refine lv_goto (tgt := 63) hx hb dX10_harm_59 (by decide) ?_
            exact J63 x1 x2 x4 x3 r5 (0 : Int32) H locs ls h hP hS (lv_sub hl [0, 1, 2, 4] rfl)
        · rw [if_pos c3] at h
          refine lv_goto (tgt := 84) hx hb dX10_harm_26 (by decide) ?_
          refine lv_iinc (v := (x4 + (1 : Int32))) (lv' := [(4, .int (x4 + (1 : Int32))), (0, .ref (fw_ad E 0 18)), (1, .int x1), (2, .int x2), (3, .int x3)]) hx hb dX10_harm_84 hl (k := 4) rfl rfl (by decide) rfl (fun ls hl => ?_)
          refine lv_goto (tgt := 5) hx hb dX10_harm_87 (by decide) ?_
          exact ih5 x1 x2 x3 (x4 + (1 : Int32)) H locs ls h hP hS (lv_sub hl [1, 2, 3, 4, 0] rfl)
  have EN : ∀ (H : Heap) (locs : List Loc) (ls : Array Slot), fw_P E o d μ H → va_S (fw_A E) s.heap H locs → lv_has ls 5 [(0, .ref (fw_ad E 0 18)), (1, .int x1), (2, .int x2)] → W p l e (headSpec (fw_ws yX10_harm cX10_harm 5 (some .int)) ({ frames := 5, cells := 0, slots := 0, locals := 113 } : Room)).room s m args below meth c H locs 0 0 (MQ below (fw_Q E o d (some (.int r)) μ) args s 0 0 (fw_A E)) (F0 m 0 ls []) := by
    intro H locs ls hP hS hl
    unfold f_X10_harm at h
    refine lv_iconst (v := (0 : Int32)) hx hb dX10_harm_0 (by decide) ?_
    refine lv_istore_n (lv' := [(3, .int (0 : Int32)), (0, .ref (fw_ad E 0 18)), (1, .int x1), (2, .int x2)]) hx hb dX10_harm_1 rfl hl (by decide) rfl (fun ls hl => ?_)
    refine lv_iconst (v := (0 : Int32)) hx hb dX10_harm_2 (by decide) ?_
    refine lv_istore (lv' := [(4, .int (0 : Int32)), (3, .int (0 : Int32)), (0, .ref (fw_ad E 0 18)), (1, .int x1), (2, .int x2)]) hx hb dX10_harm_3 hl (by decide) rfl (fun ls hl => ?_)
    exact L5 1000 x1 x2 (0 : Int32) (0 : Int32) H locs ls h hP hS (lv_sub hl [2, 3, 4, 1, 0] rfl)
  subst ha
  have hl := lv_entry ([.ref (fw_ad E 0 18), .int x1, .int x2]) (n := 5) (Nat.le_of_ble_eq_true rfl)
  rw [lg_entry_eq]
  generalize (lg_sl ([.ref (fw_ad E 0 18), .int x1, .int x2]) ++ List.replicate (5 - (lg_sl ([.ref (fw_ad E 0 18), .int x1, .int x2])).length) Slot.unset).toArray = ls at hl ⊢
  exact EN s.heap [] ls hP va_S.rf hl
set_option maxHeartbeats 4000000 in
set_option maxRecDepth 100000 in
theorem k_X10_warm (l : Launch) {E : fw_E} {o : Int64} {d : UInt64} (hE : fw_ok E) {μ : fw_M} (x1 : Int32) {r : UInt32} (h : f_X10_warm μ x1 = some r) : Met l yX10_warm (fw_ws yX10_warm cX10_warm 2 (some .float)) ({ frames := 0, cells := 0, slots := 0, locals := 0 } : Room) (va_Pc [.ref (fw_ad E 0 18), .int x1] (fw_Pre E o d μ)) (fw_Q E o d (some (.float r)) μ) 0 0 (fw_A E) := by
  refine Met.ofW (cc := cX10_warm) (maxL := 2) (ret := (some .float)) (by decide) rfl ?_
  intro p e s m args below meth c s₁ B hml hv
  obtain ⟨ha, hK, hP, hSt⟩ := hv
  have hx := B.exec
  have hb := B.bytes
  have hr := B.returns
  have hts := atoms_spec (ws := fw_ws yX10_warm cX10_warm 2 (some .float)) B.pre
  have hU : ∀ w ∈ fw_U, w.before args s = true := fun w hw => hts w (List.mem_cons_of_mem _ hw)
  have hown : s.vm.findClass RX10 = some m.cls := findClass_of_methodNamed B.named
  have hlocks := B.notSynchronized
  have EN : ∀ (H : Heap) (locs : List Loc) (ls : Array Slot), fw_P E o d μ H → va_S (fw_A E) s.heap H locs → lv_has ls 2 [(0, .ref (fw_ad E 0 18)), (1, .int x1)] → W p l e (headSpec (fw_ws yX10_warm cX10_warm 2 (some .float)) ({ frames := 0, cells := 0, slots := 0, locals := 0 } : Room)).room s m args below meth c H locs 0 0 (MQ below (fw_Q E o d (some (.float r)) μ) args s 0 0 (fw_A E)) (F0 m 0 ls []) := by
    intro H locs ls hP hS hl
    unfold f_X10_warm at h
    refine lv_aload_n hx hb dX10_warm_0 rfl (lv_at hl 0 rfl) ?_
    refine va_get (D := fw_D E) (ci := 8) (v := .ref (fw_ad E 0 19)) (C := RX10) (T := TX10) (N := 20) hx hb hU inU10 hown hK (fw_at hP (fw_V0 (f := 18) (by decide) (by decide))) 0 rfl rfl 1 (by decide) (hU (Cond.fieldLink RX10 7 "LaundryServiceModel" "s" "[I") m_1118) (fun _ h9 => h9) rfl dX10_warm_1 ?_
    refine lv_iconst (v := (2 : Int32)) hx hb dX10_warm_4 (by decide) ?_
    refine lv_iload_n hx hb dX10_warm_5 rfl (lv_at hl 1 rfl) ?_
    refine lv_iadd hx hb dX10_warm_6 ?_
    obtain ⟨g1, h⟩ := fw_g_e h
    refine va_iald (D := fw_D E) hx hb hK (fw_at hP (fw_V0 (f := 19) (by decide) (by decide))) 0 0 rfl rfl (fw_in_e g1) dX10_warm_7 ?_
    refine lv_i2f hx hb dX10_warm_8 ?_
    refine lv_ldcf (v := (1056964608 : UInt32)) hx hb hown (hU (Cond.constantFloat RX10 94 (1056964608 : UInt32)) m_1263) dX10_warm_9 ?_
    obtain ⟨g2, h⟩ := fw_g_e h
    refine lv_fmul hx hb dX10_warm_11 (fw_f32_e g2) ?_
    exact W.fret (v := (FP.fmul (FP.i2f (μ 0 19 ((2 : Int32) + x1).toNatClampNeg)) (1056964608 : UInt32))) hx hb hr (fw_er (mk := Value.float) h hP hS) hS.2.2 dX10_warm_12
  subst ha
  have hl := lv_entry ([.ref (fw_ad E 0 18), .int x1]) (n := 2) (Nat.le_of_ble_eq_true rfl)
  rw [lg_entry_eq]
  generalize (lg_sl ([.ref (fw_ad E 0 18), .int x1]) ++ List.replicate (2 - (lg_sl ([.ref (fw_ad E 0 18), .int x1])).length) Slot.unset).toArray = ls at hl ⊢
  exact EN s.heap [] ls hP va_S.rf hl
set_option maxHeartbeats 4000000 in
set_option maxRecDepth 100000 in
theorem k_X10_cost (l : Launch) {E : fw_E} {o : Int64} {d : UInt64} (hE : fw_ok E) {μ : fw_M} (x1 : Int32) (x2 : Int32) {r : UInt32} (h : f_X10_cost μ x1 x2 = some r) : Met l yX10_cost (fw_ws yX10_cost cX10_cost 6 (some .float)) ({ frames := 3, cells := 0, slots := 0, locals := 68 } : Room) (va_Pc [.ref (fw_ad E 0 18), .int x1, .int x2] (fw_Pre E o d μ)) (fw_Q E o d (some (.float r)) μ) 0 0 (fw_A E) := by
  refine Met.ofW (cc := cX10_cost) (maxL := 6) (ret := (some .float)) (by decide) rfl ?_
  intro p e s m args below meth c s₁ B hml hv
  obtain ⟨ha, hK, hP, hSt⟩ := hv
  have hx := B.exec
  have hb := B.bytes
  have hr := B.returns
  have hts := atoms_spec (ws := fw_ws yX10_cost cX10_cost 6 (some .float)) B.pre
  have hU : ∀ w ∈ fw_U, w.before args s = true := fun w hw => hts w (List.mem_cons_of_mem _ hw)
  have hown : s.vm.findClass RX10 = some m.cls := findClass_of_methodNamed B.named
  have hlocks := B.notSynchronized
  have L19 : ∀ (n : Nat) (x1 : Int32) (x3 : Int32) (x4 : Int32) (x5 : Int32) (H : Heap) (locs : List Loc) (ls : Array Slot), f_X10_cost_L19 μ n x1 x3 x4 x5 = some r → fw_P E o d μ H → va_S (fw_A E) s.heap H locs → lv_has ls 6 [(0, .ref (fw_ad E 0 18)), (1, .int x1), (3, .int x3), (4, .int x4), (5, .int x5)] → W p l e (headSpec (fw_ws yX10_cost cX10_cost 6 (some .float)) ({ frames := 3, cells := 0, slots := 0, locals := 68 } : Room)).room s m args below meth c H locs 0 0 (MQ below (fw_Q E o d (some (.float r)) μ) args s 0 0 (fw_A E)) (F0 m 19 ls []) := by
    intro n19
    induction n19 with
    | zero => intro x1 x3 x4 x5 H locs ls h; rw [f_X10_cost_L19] at h; cases h
    | succ n19 ih19 =>
      intro x1 x3 x4 x5 H locs ls h hP hS hl
      rw [f_X10_cost_L19] at h
      refine lv_iload hx hb dX10_cost_19 (lv_at hl 4 rfl) ?_
      refine lv_iconst (v := (4 : Int32)) hx hb dX10_cost_21 (by decide) ?_
      refine lv_icmp_ge (tgt := 51) hx hb dX10_cost_22 (by decide) (fun c3 => ?_) (fun c3 => ?_)
      · rw [if_pos c3] at h
        refine lv_ldcf (v := (1067450368 : UInt32)) hx hb hown (hU (Cond.constantFloat RX10 98 (1067450368 : UInt32)) m_1287) dX10_cost_51 ?_
        refine lv_iload_n hx hb dX10_cost_53 rfl (lv_at hl 2 rfl) ?_
        refine lv_i2f hx hb dX10_cost_54 ?_
        obtain ⟨g4, h⟩ := fw_g_e h
        refine lv_fmul hx hb dX10_cost_55 (fw_f32_e g4) ?_
        refine lv_aload_n hx hb dX10_cost_56 rfl (lv_at hl 0 rfl) ?_
        refine lv_iload_n hx hb dX10_cost_57 rfl (lv_at hl 1 rfl) ?_
        obtain ⟨r5, hc5, h⟩ := fw_b1_e h
        refine fw_ret (va_runV (As := [.int x1]) (rest := [.float (FP.fmul (1067450368 : UInt32) (FP.i2f x3))]) ⟨hx, hb, hml, hown, hU⟩ (k_X10_warm l hE x1 hc5) (cwV 1 hU (fw_gV m_1288 m_1290 ms_29 m_9 m_1291) rfl rfl rfl (by decide +kernel) ⟨(Nat.le_of_ble_eq_true rfl), (Nat.le_of_ble_eq_true rfl)⟩) ⟨fw_blind, fw_recv hK hP (fw_V0 (f := 18) (by decide) (by decide)) rfl rfl, fun U hU9 hW9 => ⟨rfl, fw_pre hK hP hSt hS U hU9 hW9⟩⟩ rfl rfl hl.1 rfl (lv_room (Nat.le_of_ble_eq_true rfl)) dX10_cost_58 ⟨Nat.zero_le _, Nat.zero_le _⟩) hS (fun H locs hP hS => ?_)
        refine lv_ldcf (v := (1040187392 : UInt32)) hx hb hown (hU (Cond.constantFloat RX10 103 (1040187392 : UInt32)) m_1292) dX10_cost_61 ?_
        obtain ⟨g6, h⟩ := fw_g_e h
        refine lv_fmul hx hb dX10_cost_63 (fw_f32_e g6) ?_
        refine lv_iload hx hb dX10_cost_64 (lv_at hl 3 rfl) ?_
        refine lv_i2f hx hb dX10_cost_66 ?_
        obtain ⟨g7, h⟩ := fw_g_e h
        refine lv_fdiv hx hb dX10_cost_67 (fw_f32_e g7) ?_
        obtain ⟨g8, h⟩ := fw_g_e h
        refine lv_fadd hx hb dX10_cost_68 (fw_f32_e g8) ?_
        exact W.fret (v := (FP.fadd (FP.fmul (1067450368 : UInt32) (FP.i2f x3)) (FP.fdiv (FP.fmul r5 (1040187392 : UInt32)) (FP.i2f x4)))) hx hb hr (fw_er (mk := Value.float) h hP hS) hS.2.2 dX10_cost_69
      · rw [if_neg c3] at h
        refine lv_iload hx hb dX10_cost_25 (lv_at hl 3 rfl) ?_
        refine lv_aload_n hx hb dX10_cost_27 rfl (lv_at hl 0 rfl) ?_
        refine lv_iload_n hx hb dX10_cost_28 rfl (lv_at hl 1 rfl) ?_
        refine lv_iload hx hb dX10_cost_29 (lv_at hl 4 rfl) ?_
        obtain ⟨r9, hc9, h⟩ := fw_b1_e h
        refine fw_ret (va_runV (As := [.int x1, .int x5]) (rest := [.int x4]) ⟨hx, hb, hml, hown, hU⟩ (k_X10_heldOf l hE x1 x5 hc9) (cwV 2 hU (fw_gV m_1283 m_1285 ms_28 m_9 m_1286) rfl rfl rfl (by decide +kernel) ⟨(Nat.le_of_ble_eq_true rfl), (Nat.le_of_ble_eq_true rfl)⟩) ⟨fw_blind, fw_recv hK hP (fw_V0 (f := 18) (by decide) (by decide)) rfl rfl, fun U hU9 hW9 => ⟨rfl, fw_pre hK hP hSt hS U hU9 hW9⟩⟩ rfl rfl hl.1 rfl (lv_room (Nat.le_of_ble_eq_true rfl)) dX10_cost_31 ⟨Nat.zero_le _, Nat.zero_le _⟩) hS (fun H locs hP hS => ?_)
        refine lv_if_le (tgt := 41) hx hb dX10_cost_34 (by decide) (fun c10 => ?_) (fun c10 => ?_)
        · rw [if_pos c10] at h
          refine lv_iconst (v := (0 : Int32)) hx hb dX10_cost_41 (by decide) ?_
          refine lv_iadd hx hb dX10_cost_42 ?_
          refine lv_istore (lv' := [(4, .int (x4 + (0 : Int32))), (0, .ref (fw_ad E 0 18)), (1, .int x1), (3, .int x3), (5, .int x5)]) hx hb dX10_cost_43 hl (by decide) rfl (fun ls hl => ?_)
          refine lv_iinc (v := (x5 + (1 : Int32))) (lv' := [(5, .int (x5 + (1 : Int32))), (4, .int (x4 + (0 : Int32))), (0, .ref (fw_ad E 0 18)), (1, .int x1), (3, .int x3)]) hx hb dX10_cost_45 hl (k := 4) rfl rfl (by decide) rfl (fun ls hl => ?_)
          refine lv_goto (tgt := 19) hx hb dX10_cost_48 (by decide) ?_
          exact ih19 x1 x3 (x4 + (0 : Int32)) (x5 + (1 : Int32)) H locs ls h hP hS (lv_sub hl [2, 3, 4, 1, 0] rfl)
        · rw [if_neg c10] at h
          refine lv_iconst (v := (1 : Int32)) hx hb dX10_cost_37 (by decide) ?_
          refine lv_goto (tgt := 42) hx hb dX10_cost_38 (by decide) ?_
          refine lv_iadd hx hb dX10_cost_42 ?_
          refine lv_istore (lv' := [(4, .int (x4 + (1 : Int32))), (0, .ref (fw_ad E 0 18)), (1, .int x1), (3, .int x3), (5, .int x5)]) hx hb dX10_cost_43 hl (by decide) rfl (fun ls hl => ?_)
          refine lv_iinc (v := (x5 + (1 : Int32))) (lv' := [(5, .int (x5 + (1 : Int32))), (4, .int (x4 + (1 : Int32))), (0, .ref (fw_ad E 0 18)), (1, .int x1), (3, .int x3)]) hx hb dX10_cost_45 hl (k := 4) rfl rfl (by decide) rfl (fun ls hl => ?_)
          refine lv_goto (tgt := 19) hx hb dX10_cost_48 (by decide) ?_
          exact ih19 x1 x3 (x4 + (1 : Int32)) (x5 + (1 : Int32)) H locs ls h hP hS (lv_sub hl [2, 3, 4, 1, 0] rfl)
  have EN : ∀ (H : Heap) (locs : List Loc) (ls : Array Slot), fw_P E o d μ H → va_S (fw_A E) s.heap H locs → lv_has ls 6 [(0, .ref (fw_ad E 0 18)), (1, .int x1), (2, .int x2)] → W p l e (headSpec (fw_ws yX10_cost cX10_cost 6 (some .float)) ({ frames := 3, cells := 0, slots := 0, locals := 68 } : Room)).room s m args below meth c H locs 0 0 (MQ below (fw_Q E o d (some (.float r)) μ) args s 0 0 (fw_A E)) (F0 m 0 ls []) := by
    intro H locs ls hP hS hl
    unfold f_X10_cost at h
    refine lv_aload_n hx hb dX10_cost_0 rfl (lv_at hl 0 rfl) ?_
    refine lv_iload_n hx hb dX10_cost_1 rfl (lv_at hl 1 rfl) ?_
    refine lv_iload_n hx hb dX10_cost_2 rfl (lv_at hl 2 rfl) ?_
    obtain ⟨r1, hc1, h⟩ := fw_b1_e h
    refine fw_ret (va_runV (As := [.int x1, .int x2]) (rest := []) ⟨hx, hb, hml, hown, hU⟩ (k_X10_heldOf l hE x1 x2 hc1) (cwV 2 hU (fw_gV m_1283 m_1285 ms_28 m_9 m_1286) rfl rfl rfl (by decide +kernel) ⟨(Nat.le_of_ble_eq_true rfl), (Nat.le_of_ble_eq_true rfl)⟩) ⟨fw_blind, fw_recv hK hP (fw_V0 (f := 18) (by decide) (by decide)) rfl rfl, fun U hU9 hW9 => ⟨rfl, fw_pre hK hP hSt hS U hU9 hW9⟩⟩ rfl rfl hl.1 rfl (lv_room (Nat.le_of_ble_eq_true rfl)) dX10_cost_3 ⟨Nat.zero_le _, Nat.zero_le _⟩) hS (fun H locs hP hS => ?_)
    refine lv_istore_n (lv' := [(3, .int r1), (0, .ref (fw_ad E 0 18)), (1, .int x1), (2, .int x2)]) hx hb dX10_cost_6 rfl hl (by decide) rfl (fun ls hl => ?_)
    refine lv_iload_n hx hb dX10_cost_7 rfl (lv_at hl 0 rfl) ?_
    refine lv_if_ne (tgt := 13) hx hb dX10_cost_8 (by decide) (fun c2 => ?_) (fun c2 => ?_)
    · rw [if_neg c2] at h
      refine lv_iconst (v := (0 : Int32)) hx hb dX10_cost_13 (by decide) ?_
      refine lv_istore (lv' := [(4, .int (0 : Int32)), (3, .int r1), (0, .ref (fw_ad E 0 18)), (1, .int x1), (2, .int x2)]) hx hb dX10_cost_14 hl (by decide) rfl (fun ls hl => ?_)
      refine lv_iconst (v := (0 : Int32)) hx hb dX10_cost_16 (by decide) ?_
      refine lv_istore (lv' := [(5, .int (0 : Int32)), (4, .int (0 : Int32)), (3, .int r1), (0, .ref (fw_ad E 0 18)), (1, .int x1), (2, .int x2)]) hx hb dX10_cost_17 hl (by decide) rfl (fun ls hl => ?_)
      exact L19 1000 x1 r1 (0 : Int32) (0 : Int32) H locs ls h hP hS (lv_sub hl [3, 4, 2, 1, 0] rfl)
    · rw [if_pos c2] at h
      refine lv_fconst0 hx hb dX10_cost_11 ?_
      exact W.fret (v := FP.fconst0) hx hb hr (fw_er (mk := Value.float) h hP hS) hS.2.2 dX10_cost_12
  subst ha
  have hl := lv_entry ([.ref (fw_ad E 0 18), .int x1, .int x2]) (n := 6) (Nat.le_of_ble_eq_true rfl)
  rw [lg_entry_eq]
  generalize (lg_sl ([.ref (fw_ad E 0 18), .int x1, .int x2]) ++ List.replicate (6 - (lg_sl ([.ref (fw_ad E 0 18), .int x1, .int x2])).length) Slot.unset).toArray = ls at hl ⊢
  exact EN s.heap [] ls hP va_S.rf hl
set_option maxHeartbeats 4000000 in
set_option maxRecDepth 100000 in
theorem k_X10_sumOf (l : Launch) {E : fw_E} {o : Int64} {d : UInt64} (hE : fw_ok E) {μ : fw_M} (x1 : Int32) {r : UInt32} (h : f_X10_sumOf μ x1 = some r) : Met l yX10_sumOf (fw_ws yX10_sumOf cX10_sumOf 2 (some .float)) ({ frames := 1, cells := 0, slots := 0, locals := 40 } : Room) (va_Pc [.ref (fw_ad E 0 18), .int x1] (fw_Pre E o d μ)) (fw_Q E o d (some (.float r)) μ) 0 0 (fw_A E) := by
  refine Met.ofW (cc := cX10_sumOf) (maxL := 2) (ret := (some .float)) (by decide) rfl ?_
  intro p e s m args below meth c s₁ B hml hv
  obtain ⟨ha, hK, hP, hSt⟩ := hv
  have hx := B.exec
  have hb := B.bytes
  have hr := B.returns
  have hts := atoms_spec (ws := fw_ws yX10_sumOf cX10_sumOf 2 (some .float)) B.pre
  have hU : ∀ w ∈ fw_U, w.before args s = true := fun w hw => hts w (List.mem_cons_of_mem _ hw)
  have hown : s.vm.findClass RX10 = some m.cls := findClass_of_methodNamed B.named
  have hlocks := B.notSynchronized
  have EN : ∀ (H : Heap) (locs : List Loc) (ls : Array Slot), fw_P E o d μ H → va_S (fw_A E) s.heap H locs → lv_has ls 2 [(0, .ref (fw_ad E 0 18)), (1, .int x1)] → W p l e (headSpec (fw_ws yX10_sumOf cX10_sumOf 2 (some .float)) ({ frames := 1, cells := 0, slots := 0, locals := 40 } : Room)).room s m args below meth c H locs 0 0 (MQ below (fw_Q E o d (some (.float r)) μ) args s 0 0 (fw_A E)) (F0 m 0 ls []) := by
    intro H locs ls hP hS hl
    unfold f_X10_sumOf at h
    refine lv_aload_n hx hb dX10_sumOf_0 rfl (lv_at hl 0 rfl) ?_
    refine va_get (D := fw_D E) (ci := 8) (v := .ref (fw_ad E 0 19)) (C := RX10) (T := TX10) (N := 20) hx hb hU inU10 hown hK (fw_at hP (fw_V0 (f := 18) (by decide) (by decide))) 0 rfl rfl 1 (by decide) (hU (Cond.fieldLink RX10 7 "LaundryServiceModel" "s" "[I") m_1118) (fun _ h9 => h9) rfl dX10_sumOf_1 ?_
    refine lv_bipush (v := (100 : Int32)) hx hb dX10_sumOf_4 (by decide) ?_
    refine lv_iload_n hx hb dX10_sumOf_6 rfl (lv_at hl 1 rfl) ?_
    refine lv_iadd hx hb dX10_sumOf_7 ?_
    obtain ⟨g1, h⟩ := fw_g_e h
    refine va_iald (D := fw_D E) hx hb hK (fw_at hP (fw_V0 (f := 19) (by decide) (by decide))) 0 0 rfl rfl (fw_in_e g1) dX10_sumOf_8 ?_
    obtain ⟨g2, h⟩ := fw_g_e h
    refine vn_i2f hx hb (hml.trans hl.1.symm) hown (hU (Cond.methodLink RX10 104 ⟨"java/lang/Float", "intBitsToFloat", "(I)F"⟩) m_1276) (hU (Cond.native ⟨"java/lang/Float", "intBitsToFloat", "(I)F"⟩) m_1278) (hU (Cond.static ⟨"java/lang/Float", "intBitsToFloat", "(I)F"⟩) m_1277) (hU (Cond.initialized RJxf58ca) m_24) (fw_ns_e g2) (Nat.le_of_ble_eq_true rfl) (Nat.le_of_ble_eq_true rfl) dX10_sumOf_9 ?_
    exact W.fret (v := (μ 0 19 ((100 : Int32) + x1).toNatClampNeg).toUInt32) hx hb hr (fw_er (mk := Value.float) h hP hS) hS.2.2 dX10_sumOf_12
  subst ha
  have hl := lv_entry ([.ref (fw_ad E 0 18), .int x1]) (n := 2) (Nat.le_of_ble_eq_true rfl)
  rw [lg_entry_eq]
  generalize (lg_sl ([.ref (fw_ad E 0 18), .int x1]) ++ List.replicate (2 - (lg_sl ([.ref (fw_ad E 0 18), .int x1])).length) Slot.unset).toArray = ls at hl ⊢
  exact EN s.heap [] ls hP va_S.rf hl
set_option maxHeartbeats 4000000 in
set_option maxRecDepth 100000 in
theorem k_X10_brings (l : Launch) {E : fw_E} {o : Int64} {d : UInt64} (hE : fw_ok E) {μ μ' : fw_M} (x1 : Int32) (x2 : Int32) (x3 : Int32) (x4 : Int32) {r : Int32} (h : f_X10_brings μ x1 x2 x3 x4 = some (μ', r)) : Met l yX10_brings (fw_ws yX10_brings cX10_brings 6 (some .int)) ({ frames := 2, cells := 0, slots := 0, locals := 42 } : Room) (va_Pc [.ref (fw_ad E 0 18), .int x1, .int x2, .int x3, .int x4] (fw_Pre E o d μ)) (fw_Q E o d (some (.int r)) μ') 0 0 (fw_A E) := by
  refine Met.ofW (cc := cX10_brings) (maxL := 6) (ret := (some .int)) (by decide) rfl ?_
  intro p e s m args below meth c s₁ B hml hv
  obtain ⟨ha, hK, hP, hSt⟩ := hv
  have hx := B.exec
  have hb := B.bytes
  have hr := B.returns
  have hts := atoms_spec (ws := fw_ws yX10_brings cX10_brings 6 (some .int)) B.pre
  have hU : ∀ w ∈ fw_U, w.before args s = true := fun w hw => hts w (List.mem_cons_of_mem _ hw)
  have hown : s.vm.findClass RX10 = some m.cls := findClass_of_methodNamed B.named
  have hlocks := B.notSynchronized
  have EN : ∀ (H : Heap) (locs : List Loc) (ls : Array Slot), fw_P E o d μ H → va_S (fw_A E) s.heap H locs → lv_has ls 6 [(0, .ref (fw_ad E 0 18)), (1, .int x1), (2, .int x2), (3, .int x3), (4, .int x4)] → W p l e (headSpec (fw_ws yX10_brings cX10_brings 6 (some .int)) ({ frames := 2, cells := 0, slots := 0, locals := 42 } : Room)).room s m args below meth c H locs 0 0 (MQ below (fw_Q E o d (some (.int r)) μ') args s 0 0 (fw_A E)) (F0 m 0 ls []) := by
    intro H locs ls hP hS hl
    unfold f_X10_brings at h
    refine lv_iload_n hx hb dX10_brings_0 rfl (lv_at hl 1 rfl) ?_
    obtain ⟨r1, hc1, h⟩ := fw_b1_e h
    refine fw_ret (va_runS (As := [.int x1]) (rest := []) ⟨hx, hb, hml, hown, hU⟩ (k_X10_isClient l hE x1 hc1) (va_cwS 1 hU (fw_gS m_1194 m_1195 m_9 m_1196) rfl rfl rfl (by decide +kernel) ⟨(Nat.le_of_ble_eq_true rfl), (Nat.le_of_ble_eq_true rfl)⟩) ⟨fw_blind, fun U hU9 hW9 => ⟨rfl, fw_pre hK hP hSt hS U hU9 hW9⟩⟩ rfl rfl hl.1 rfl (lv_room (Nat.le_of_ble_eq_true rfl)) dX10_brings_1 ⟨Nat.zero_le _, Nat.zero_le _⟩) hS (fun H locs hP hS => ?_)
    refine lv_if_ne (tgt := 9) hx hb dX10_brings_4 (by decide) (fun c2 => ?_) (fun c2 => ?_)
    · rw [if_neg c2] at h
      refine lv_iload_n hx hb dX10_brings_9 rfl (lv_at hl 3 rfl) ?_
      refine lv_iconst (v := (0 : Int32)) hx hb dX10_brings_10 (by decide) ?_
      refine lv_bipush (v := (7 : Int32)) hx hb dX10_brings_11 (by decide) ?_
      obtain ⟨r3, hc3, h⟩ := fw_b1_e h
      refine fw_ret (va_runS (As := [.int x3, .int (0 : Int32), .int (7 : Int32)]) (rest := []) ⟨hx, hb, hml, hown, hU⟩ (k_X10_in l hE x3 (0 : Int32) (7 : Int32) hc3) (va_cwS 3 hU (fw_gS m_1197 m_1198 m_9 m_1199) rfl rfl rfl (by decide +kernel) ⟨(Nat.le_of_ble_eq_true rfl), (Nat.le_of_ble_eq_true rfl)⟩) ⟨fw_blind, fun U hU9 hW9 => ⟨rfl, fw_pre hK hP hSt hS U hU9 hW9⟩⟩ rfl rfl hl.1 rfl (lv_room (Nat.le_of_ble_eq_true rfl)) dX10_brings_13 ⟨Nat.zero_le _, Nat.zero_le _⟩) hS (fun H locs hP hS => ?_)
      refine lv_if_eq (tgt := 31) hx hb dX10_brings_16 (by decide) (fun c4 => ?_) (fun c4 => ?_)
      · rw [if_pos c4] at h
        refine lv_iconst (v := (2 : Int32)) hx hb dX10_brings_31 (by decide) ?_
        exact W.iret (v := (2 : Int32)) hx hb hr (fw_ew (mk := Value.int) h hP hS) hS.2.2 dX10_brings_32
      · rw [if_neg c4] at h
        refine lv_iload hx hb dX10_brings_19 (lv_at hl 4 rfl) ?_
        refine lv_iconst (v := (0 : Int32)) hx hb dX10_brings_21 (by decide) ?_
        refine lv_sipush (v := (255 : Int32)) hx hb dX10_brings_22 (by decide) ?_
        obtain ⟨r5, hc5, h⟩ := fw_b1_e h
        refine fw_ret (va_runS (As := [.int x4, .int (0 : Int32), .int (255 : Int32)]) (rest := []) ⟨hx, hb, hml, hown, hU⟩ (k_X10_in l hE x4 (0 : Int32) (255 : Int32) hc5) (va_cwS 3 hU (fw_gS m_1197 m_1198 m_9 m_1199) rfl rfl rfl (by decide +kernel) ⟨(Nat.le_of_ble_eq_true rfl), (Nat.le_of_ble_eq_true rfl)⟩) ⟨fw_blind, fun U hU9 hW9 => ⟨rfl, fw_pre hK hP hSt hS U hU9 hW9⟩⟩ rfl rfl hl.1 rfl (lv_room (Nat.le_of_ble_eq_true rfl)) dX10_brings_25 ⟨Nat.zero_le _, Nat.zero_le _⟩) hS (fun H locs hP hS => ?_)
        refine lv_if_ne (tgt := 33) hx hb dX10_brings_28 (by decide) (fun c6 => ?_) (fun c6 => ?_)
        · rw [if_neg c6] at h
          refine lv_aload_n hx hb dX10_brings_33 rfl (lv_at hl 0 rfl) ?_
          refine va_get (D := fw_D E) (ci := 8) (v := .ref (fw_ad E 0 19)) (C := RX10) (T := TX10) (N := 20) hx hb hU inU10 hown hK (fw_at hP (fw_V0 (f := 18) (by decide) (by decide))) 0 rfl rfl 1 (by decide) (hU (Cond.fieldLink RX10 7 "LaundryServiceModel" "s" "[I") m_1118) (fun _ h9 => h9) rfl dX10_brings_34 ?_
          refine lv_iconst (v := (0 : Int32)) hx hb dX10_brings_37 (by decide) ?_
          refine va_iald (D := fw_D E) hx hb hK (fw_at hP (fw_V0 (f := 19) (by decide) (by decide))) 0 0 rfl rfl (fw_in_e (n := 104) (by decide)) dX10_brings_38 ?_
          refine lv_istore (lv' := [(5, .int (μ 0 19 (0 : Int32).toNatClampNeg)), (0, .ref (fw_ad E 0 18)), (1, .int x1), (2, .int x2), (3, .int x3), (4, .int x4)]) hx hb dX10_brings_39 hl (by decide) rfl (fun ls hl => ?_)
          refine lv_iload hx hb dX10_brings_41 (lv_at hl 0 rfl) ?_
          refine lv_bipush (v := (16 : Int32)) hx hb dX10_brings_43 (by decide) ?_
          refine lv_icmp_ne (tgt := 50) hx hb dX10_brings_45 (by decide) (fun c7 => ?_) (fun c7 => ?_)
          · rw [if_neg c7] at h
            refine lv_aload_n hx hb dX10_brings_50 rfl (lv_at hl 1 rfl) ?_
            refine lv_iload hx hb dX10_brings_51 (lv_at hl 0 rfl) ?_
            refine lv_iconst (v := (0 : Int32)) hx hb dX10_brings_53 (by decide) ?_
            refine lv_iload_n hx hb dX10_brings_54 rfl (lv_at hl 2 rfl) ?_
            obtain ⟨μ8, r8, hc8, h⟩ := fw_b2_e h
            refine fw_retv (va_runV (As := [.int (μ 0 19 (0 : Int32).toNatClampNeg), .int (0 : Int32), .int x1]) (rest := []) ⟨hx, hb, hml, hown, hU⟩ (k_X10_sets l hE (μ 0 19 (0 : Int32).toNatClampNeg) (0 : Int32) x1 hc8) (cwV 3 hU (fw_gV m_1200 m_1202 ms_13 m_9 m_1203) rfl rfl rfl (by decide +kernel) ⟨(Nat.le_of_ble_eq_true rfl), (Nat.le_of_ble_eq_true rfl)⟩) ⟨fw_blind, fw_recv hK hP (fw_V0 (f := 18) (by decide) (by decide)) rfl rfl, fun U hU9 hW9 => ⟨rfl, fw_pre hK hP hSt hS U hU9 hW9⟩⟩ rfl rfl hl.1 rfl (lv_room (Nat.le_of_ble_eq_true rfl)) dX10_brings_55 ⟨Nat.zero_le _, Nat.zero_le _⟩) hS (fun H locs hP hS => ?_)
            refine lv_aload_n hx hb dX10_brings_58 rfl (lv_at hl 1 rfl) ?_
            refine lv_iload hx hb dX10_brings_59 (lv_at hl 0 rfl) ?_
            refine lv_iconst (v := (1 : Int32)) hx hb dX10_brings_61 (by decide) ?_
            refine lv_iload_n hx hb dX10_brings_62 rfl (lv_at hl 3 rfl) ?_
            obtain ⟨μ9, r9, hc9, h⟩ := fw_b2_e h
            refine fw_retv (va_runV (As := [.int (μ 0 19 (0 : Int32).toNatClampNeg), .int (1 : Int32), .int x2]) (rest := []) ⟨hx, hb, hml, hown, hU⟩ (k_X10_sets l hE (μ 0 19 (0 : Int32).toNatClampNeg) (1 : Int32) x2 hc9) (cwV 3 hU (fw_gV m_1200 m_1202 ms_13 m_9 m_1203) rfl rfl rfl (by decide +kernel) ⟨(Nat.le_of_ble_eq_true rfl), (Nat.le_of_ble_eq_true rfl)⟩) ⟨fw_blind, fw_recv hK hP (fw_V0 (f := 18) (by decide) (by decide)) rfl rfl, fun U hU9 hW9 => ⟨rfl, fw_pre hK hP hSt hS U hU9 hW9⟩⟩ rfl rfl hl.1 rfl (lv_room (Nat.le_of_ble_eq_true rfl)) dX10_brings_63 ⟨Nat.zero_le _, Nat.zero_le _⟩) hS (fun H locs hP hS => ?_)
            refine lv_aload_n hx hb dX10_brings_66 rfl (lv_at hl 1 rfl) ?_
            refine lv_iload hx hb dX10_brings_67 (lv_at hl 0 rfl) ?_
            refine lv_iconst (v := (2 : Int32)) hx hb dX10_brings_69 (by decide) ?_
            refine lv_iload_n hx hb dX10_brings_70 rfl (lv_at hl 4 rfl) ?_
            obtain ⟨μ10, r10, hc10, h⟩ := fw_b2_e h
            refine fw_retv (va_runV (As := [.int (μ 0 19 (0 : Int32).toNatClampNeg), .int (2 : Int32), .int x3]) (rest := []) ⟨hx, hb, hml, hown, hU⟩ (k_X10_sets l hE (μ 0 19 (0 : Int32).toNatClampNeg) (2 : Int32) x3 hc10) (cwV 3 hU (fw_gV m_1200 m_1202 ms_13 m_9 m_1203) rfl rfl rfl (by decide +kernel) ⟨(Nat.le_of_ble_eq_true rfl), (Nat.le_of_ble_eq_true rfl)⟩) ⟨fw_blind, fw_recv hK hP (fw_V0 (f := 18) (by decide) (by decide)) rfl rfl, fun U hU9 hW9 => ⟨rfl, fw_pre hK hP hSt hS U hU9 hW9⟩⟩ rfl rfl hl.1 rfl (lv_room (Nat.le_of_ble_eq_true rfl)) dX10_brings_71 ⟨Nat.zero_le _, Nat.zero_le _⟩) hS (fun H locs hP hS => ?_)
            refine lv_aload_n hx hb dX10_brings_74 rfl (lv_at hl 1 rfl) ?_
            refine lv_iload hx hb dX10_brings_75 (lv_at hl 0 rfl) ?_
            refine lv_iconst (v := (3 : Int32)) hx hb dX10_brings_77 (by decide) ?_
            refine lv_iload hx hb dX10_brings_78 (lv_at hl 5 rfl) ?_
            obtain ⟨μ11, r11, hc11, h⟩ := fw_b2_e h
            refine fw_retv (va_runV (As := [.int (μ 0 19 (0 : Int32).toNatClampNeg), .int (3 : Int32), .int x4]) (rest := []) ⟨hx, hb, hml, hown, hU⟩ (k_X10_sets l hE (μ 0 19 (0 : Int32).toNatClampNeg) (3 : Int32) x4 hc11) (cwV 3 hU (fw_gV m_1200 m_1202 ms_13 m_9 m_1203) rfl rfl rfl (by decide +kernel) ⟨(Nat.le_of_ble_eq_true rfl), (Nat.le_of_ble_eq_true rfl)⟩) ⟨fw_blind, fw_recv hK hP (fw_V0 (f := 18) (by decide) (by decide)) rfl rfl, fun U hU9 hW9 => ⟨rfl, fw_pre hK hP hSt hS U hU9 hW9⟩⟩ rfl rfl hl.1 rfl (lv_room (Nat.le_of_ble_eq_true rfl)) dX10_brings_80 ⟨Nat.zero_le _, Nat.zero_le _⟩) hS (fun H locs hP hS => ?_)
            refine lv_aload_n hx hb dX10_brings_83 rfl (lv_at hl 1 rfl) ?_
            refine lv_iload hx hb dX10_brings_84 (lv_at hl 0 rfl) ?_
            refine lv_iconst (v := (4 : Int32)) hx hb dX10_brings_86 (by decide) ?_
            refine lv_iconst (v := (0 : Int32)) hx hb dX10_brings_87 (by decide) ?_
            obtain ⟨μ12, r12, hc12, h⟩ := fw_b2_e h
            refine fw_retv (va_runV (As := [.int (μ 0 19 (0 : Int32).toNatClampNeg), .int (4 : Int32), .int (0 : Int32)]) (rest := []) ⟨hx, hb, hml, hown, hU⟩ (k_X10_sets l hE (μ 0 19 (0 : Int32).toNatClampNeg) (4 : Int32) (0 : Int32) hc12) (cwV 3 hU (fw_gV m_1200 m_1202 ms_13 m_9 m_1203) rfl rfl rfl (by decide +kernel) ⟨(Nat.le_of_ble_eq_true rfl), (Nat.le_of_ble_eq_true rfl)⟩) ⟨fw_blind, fw_recv hK hP (fw_V0 (f := 18) (by decide) (by decide)) rfl rfl, fun U hU9 hW9 => ⟨rfl, fw_pre hK hP hSt hS U hU9 hW9⟩⟩ rfl rfl hl.1 rfl (lv_room (Nat.le_of_ble_eq_true rfl)) dX10_brings_88 ⟨Nat.zero_le _, Nat.zero_le _⟩) hS (fun H locs hP hS => ?_)
            refine lv_aload_n hx hb dX10_brings_91 rfl (lv_at hl 1 rfl) ?_
            refine lv_iload hx hb dX10_brings_92 (lv_at hl 0 rfl) ?_
            refine lv_iconst (v := (5 : Int32)) hx hb dX10_brings_94 (by decide) ?_
            refine lv_iconst (v := (0 : Int32)) hx hb dX10_brings_95 (by decide) ?_
            obtain ⟨μ13, r13, hc13, h⟩ := fw_b2_e h
            refine fw_retv (va_runV (As := [.int (μ 0 19 (0 : Int32).toNatClampNeg), .int (5 : Int32), .int (0 : Int32)]) (rest := []) ⟨hx, hb, hml, hown, hU⟩ (k_X10_sets l hE (μ 0 19 (0 : Int32).toNatClampNeg) (5 : Int32) (0 : Int32) hc13) (cwV 3 hU (fw_gV m_1200 m_1202 ms_13 m_9 m_1203) rfl rfl rfl (by decide +kernel) ⟨(Nat.le_of_ble_eq_true rfl), (Nat.le_of_ble_eq_true rfl)⟩) ⟨fw_blind, fw_recv hK hP (fw_V0 (f := 18) (by decide) (by decide)) rfl rfl, fun U hU9 hW9 => ⟨rfl, fw_pre hK hP hSt hS U hU9 hW9⟩⟩ rfl rfl hl.1 rfl (lv_room (Nat.le_of_ble_eq_true rfl)) dX10_brings_96 ⟨Nat.zero_le _, Nat.zero_le _⟩) hS (fun H locs hP hS => ?_)
            refine lv_aload_n hx hb dX10_brings_99 rfl (lv_at hl 1 rfl) ?_
            refine va_get (D := fw_D E) (ci := 8) (v := .ref (fw_ad E 0 19)) (C := RX10) (T := TX10) (N := 20) hx hb hU inU10 hown hK (fw_at hP (fw_V0 (f := 18) (by decide) (by decide))) 0 rfl rfl 1 (by decide) (hU (Cond.fieldLink RX10 7 "LaundryServiceModel" "s" "[I") m_1118) (fun _ h9 => h9) rfl dX10_brings_100 ?_
            refine lv_iconst (v := (0 : Int32)) hx hb dX10_brings_103 (by decide) ?_
            refine lv_iload hx hb dX10_brings_104 (lv_at hl 0 rfl) ?_
            refine lv_iconst (v := (1 : Int32)) hx hb dX10_brings_106 (by decide) ?_
            refine lv_iadd hx hb dX10_brings_107 ?_
            obtain ⟨g14, h⟩ := fw_g_e h
            refine fw_iast (n := 104) hx hb hK hP hE hS (fw_V0 (f := 19) (by decide) (by decide)) (fun _ => rfl) (fw_in_e g14) dX10_brings_108 (fun H locs hP hS => ?_)
            obtain ⟨μ15, eμ15, h⟩ := fw_l_e h
            rw [← eμ15] at hP
            refine lv_aload_n hx hb dX10_brings_109 rfl (lv_at hl 1 rfl) ?_
            refine lv_iload hx hb dX10_brings_110 (lv_at hl 0 rfl) ?_
            obtain ⟨μ16, r16, hc16, h⟩ := fw_b2_e h
            refine fw_ret (va_runV (As := [.int (μ 0 19 (0 : Int32).toNatClampNeg)]) (rest := []) ⟨hx, hb, hml, hown, hU⟩ (k_X10_done l hE (μ 0 19 (0 : Int32).toNatClampNeg) hc16) (cwV 1 hU (fw_gV m_1204 m_1206 ms_14 m_9 m_1207) rfl rfl rfl (by decide +kernel) ⟨(Nat.le_of_ble_eq_true rfl), (Nat.le_of_ble_eq_true rfl)⟩) ⟨fw_blind, fw_recv hK hP (fw_V0 (f := 18) (by decide) (by decide)) rfl rfl, fun U hU9 hW9 => ⟨rfl, fw_pre hK hP hSt hS U hU9 hW9⟩⟩ rfl rfl hl.1 rfl (lv_room (Nat.le_of_ble_eq_true rfl)) dX10_brings_112 ⟨Nat.zero_le _, Nat.zero_le _⟩) hS (fun H locs hP hS => ?_)
            exact W.iret (v := r16) hx hb hr (fw_ew (mk := Value.int) h hP hS) hS.2.2 dX10_brings_115
          · rw [if_pos c7] at h
            refine lv_iconst (v := (3 : Int32)) hx hb dX10_brings_48 (by decide) ?_
            exact W.iret (v := (3 : Int32)) hx hb hr (fw_ew (mk := Value.int) h hP hS) hS.2.2 dX10_brings_49
        · rw [if_pos c6] at h
          refine lv_iconst (v := (2 : Int32)) hx hb dX10_brings_31 (by decide) ?_
          exact W.iret (v := (2 : Int32)) hx hb hr (fw_ew (mk := Value.int) h hP hS) hS.2.2 dX10_brings_32
    · rw [if_pos c2] at h
      refine lv_iconst (v := (1 : Int32)) hx hb dX10_brings_7 (by decide) ?_
      exact W.iret (v := (1 : Int32)) hx hb hr (fw_ew (mk := Value.int) h hP hS) hS.2.2 dX10_brings_8
  subst ha
  have hl := lv_entry ([.ref (fw_ad E 0 18), .int x1, .int x2, .int x3, .int x4]) (n := 6) (Nat.le_of_ble_eq_true rfl)
  rw [lg_entry_eq]
  generalize (lg_sl ([.ref (fw_ad E 0 18), .int x1, .int x2, .int x3, .int x4]) ++ List.replicate (6 - (lg_sl ([.ref (fw_ad E 0 18), .int x1, .int x2, .int x3, .int x4])).length) Slot.unset).toArray = ls at hl ⊢
  exact EN s.heap [] ls hP va_S.rf hl
set_option maxHeartbeats 4000000 in
set_option maxRecDepth 100000 in
theorem k_X10_loads (l : Launch) {E : fw_E} {o : Int64} {d : UInt64} (hE : fw_ok E) {μ μ' : fw_M} (x1 : Int32) (x2 : Int32) {r : Int32} (h : f_X10_loads μ x1 x2 = some (μ', r)) : Met l yX10_loads (fw_ws yX10_loads cX10_loads 3 (some .int)) ({ frames := 3, cells := 0, slots := 0, locals := 67 } : Room) (va_Pc [.ref (fw_ad E 0 18), .int x1, .int x2] (fw_Pre E o d μ)) (fw_Q E o d (some (.int r)) μ') 0 0 (fw_A E) := by
  refine Met.ofW (cc := cX10_loads) (maxL := 3) (ret := (some .int)) (by decide) rfl ?_
  intro p e s m args below meth c s₁ B hml hv
  obtain ⟨ha, hK, hP, hSt⟩ := hv
  have hx := B.exec
  have hb := B.bytes
  have hr := B.returns
  have hts := atoms_spec (ws := fw_ws yX10_loads cX10_loads 3 (some .int)) B.pre
  have hU : ∀ w ∈ fw_U, w.before args s = true := fun w hw => hts w (List.mem_cons_of_mem _ hw)
  have hown : s.vm.findClass RX10 = some m.cls := findClass_of_methodNamed B.named
  have hlocks := B.notSynchronized
  have EN : ∀ (H : Heap) (locs : List Loc) (ls : Array Slot), fw_P E o d μ H → va_S (fw_A E) s.heap H locs → lv_has ls 3 [(0, .ref (fw_ad E 0 18)), (1, .int x1), (2, .int x2)] → W p l e (headSpec (fw_ws yX10_loads cX10_loads 3 (some .int)) ({ frames := 3, cells := 0, slots := 0, locals := 67 } : Room)).room s m args below meth c H locs 0 0 (MQ below (fw_Q E o d (some (.int r)) μ') args s 0 0 (fw_A E)) (F0 m 0 ls []) := by
    intro H locs ls hP hS hl
    unfold f_X10_loads at h
    refine lv_aload_n hx hb dX10_loads_0 rfl (lv_at hl 0 rfl) ?_
    refine lv_iload_n hx hb dX10_loads_1 rfl (lv_at hl 1 rfl) ?_
    obtain ⟨r1, hc1, h⟩ := fw_b1_e h
    refine fw_ret (va_runV (As := [.int x1]) (rest := []) ⟨hx, hb, hml, hown, hU⟩ (k_X10_isGarment l hE x1 hc1) (cwV 1 hU (fw_gV m_1228 m_1230 ms_19 m_9 m_1231) rfl rfl rfl (by decide +kernel) ⟨(Nat.le_of_ble_eq_true rfl), (Nat.le_of_ble_eq_true rfl)⟩) ⟨fw_blind, fw_recv hK hP (fw_V0 (f := 18) (by decide) (by decide)) rfl rfl, fun U hU9 hW9 => ⟨rfl, fw_pre hK hP hSt hS U hU9 hW9⟩⟩ rfl rfl hl.1 rfl (lv_room (Nat.le_of_ble_eq_true rfl)) dX10_loads_2 ⟨Nat.zero_le _, Nat.zero_le _⟩) hS (fun H locs hP hS => ?_)
    refine lv_if_eq (tgt := 15) hx hb dX10_loads_5 (by decide) (fun c2 => ?_) (fun c2 => ?_)
    · rw [if_pos c2] at h
      refine lv_iconst (v := (1 : Int32)) hx hb dX10_loads_15 (by decide) ?_
      exact W.iret (v := (1 : Int32)) hx hb hr (fw_ew (mk := Value.int) h hP hS) hS.2.2 dX10_loads_16
    · rw [if_neg c2] at h
      refine lv_iload_n hx hb dX10_loads_8 rfl (lv_at hl 2 rfl) ?_
      obtain ⟨r3, hc3, h⟩ := fw_b1_e h
      refine fw_ret (va_runS (As := [.int x2]) (rest := []) ⟨hx, hb, hml, hown, hU⟩ (k_X10_isMachine l hE x2 hc3) (va_cwS 1 hU (fw_gS m_1232 m_1233 m_9 m_1234) rfl rfl rfl (by decide +kernel) ⟨(Nat.le_of_ble_eq_true rfl), (Nat.le_of_ble_eq_true rfl)⟩) ⟨fw_blind, fun U hU9 hW9 => ⟨rfl, fw_pre hK hP hSt hS U hU9 hW9⟩⟩ rfl rfl hl.1 rfl (lv_room (Nat.le_of_ble_eq_true rfl)) dX10_loads_9 ⟨Nat.zero_le _, Nat.zero_le _⟩) hS (fun H locs hP hS => ?_)
      refine lv_if_ne (tgt := 17) hx hb dX10_loads_12 (by decide) (fun c4 => ?_) (fun c4 => ?_)
      · rw [if_neg c4] at h
        refine lv_aload_n hx hb dX10_loads_17 rfl (lv_at hl 0 rfl) ?_
        refine lv_iload_n hx hb dX10_loads_18 rfl (lv_at hl 1 rfl) ?_
        refine lv_iconst (v := (4 : Int32)) hx hb dX10_loads_19 (by decide) ?_
        obtain ⟨r5, hc5, h⟩ := fw_b1_e h
        refine fw_ret (va_runV (As := [.int x1, .int (4 : Int32)]) (rest := []) ⟨hx, hb, hml, hown, hU⟩ (k_X10_of l hE x1 (4 : Int32) hc5) (cwV 2 hU (fw_gV m_1235 m_1237 ms_20 m_9 m_1238) rfl rfl rfl (by decide +kernel) ⟨(Nat.le_of_ble_eq_true rfl), (Nat.le_of_ble_eq_true rfl)⟩) ⟨fw_blind, fw_recv hK hP (fw_V0 (f := 18) (by decide) (by decide)) rfl rfl, fun U hU9 hW9 => ⟨rfl, fw_pre hK hP hSt hS U hU9 hW9⟩⟩ rfl rfl hl.1 rfl (lv_room (Nat.le_of_ble_eq_true rfl)) dX10_loads_20 ⟨Nat.zero_le _, Nat.zero_le _⟩) hS (fun H locs hP hS => ?_)
        refine lv_if_eq (tgt := 28) hx hb dX10_loads_23 (by decide) (fun c6 => ?_) (fun c6 => ?_)
        · rw [if_pos c6] at h
          refine lv_aload_n hx hb dX10_loads_28 rfl (lv_at hl 0 rfl) ?_
          refine lv_iload_n hx hb dX10_loads_29 rfl (lv_at hl 2 rfl) ?_
          obtain ⟨r7, hc7, h⟩ := fw_b1_e h
          refine fw_ret (va_runV (As := [.int x2]) (rest := []) ⟨hx, hb, hml, hown, hU⟩ (k_X10_held l hE x2 hc7) (cwV 1 hU (fw_gV m_1239 m_1241 ms_21 m_9 m_1242) rfl rfl rfl (by decide +kernel) ⟨(Nat.le_of_ble_eq_true rfl), (Nat.le_of_ble_eq_true rfl)⟩) ⟨fw_blind, fw_recv hK hP (fw_V0 (f := 18) (by decide) (by decide)) rfl rfl, fun U hU9 hW9 => ⟨rfl, fw_pre hK hP hSt hS U hU9 hW9⟩⟩ rfl rfl hl.1 rfl (lv_room (Nat.le_of_ble_eq_true rfl)) dX10_loads_30 ⟨Nat.zero_le _, Nat.zero_le _⟩) hS (fun H locs hP hS => ?_)
          refine lv_iconst (v := (5 : Int32)) hx hb dX10_loads_33 (by decide) ?_
          refine lv_icmp_ne (tgt := 39) hx hb dX10_loads_34 (by decide) (fun c8 => ?_) (fun c8 => ?_)
          · rw [if_neg c8] at h
            refine lv_aload_n hx hb dX10_loads_39 rfl (lv_at hl 0 rfl) ?_
            refine lv_iload_n hx hb dX10_loads_40 rfl (lv_at hl 1 rfl) ?_
            refine lv_iconst (v := (4 : Int32)) hx hb dX10_loads_41 (by decide) ?_
            refine lv_iload_n hx hb dX10_loads_42 rfl (lv_at hl 2 rfl) ?_
            refine lv_iconst (v := (1 : Int32)) hx hb dX10_loads_43 (by decide) ?_
            refine lv_iadd hx hb dX10_loads_44 ?_
            obtain ⟨μ9, r9, hc9, h⟩ := fw_b2_e h
            refine fw_retv (va_runV (As := [.int x1, .int (4 : Int32), .int (x2 + (1 : Int32))]) (rest := []) ⟨hx, hb, hml, hown, hU⟩ (k_X10_sets l hE x1 (4 : Int32) (x2 + (1 : Int32)) hc9) (cwV 3 hU (fw_gV m_1200 m_1202 ms_13 m_9 m_1203) rfl rfl rfl (by decide +kernel) ⟨(Nat.le_of_ble_eq_true rfl), (Nat.le_of_ble_eq_true rfl)⟩) ⟨fw_blind, fw_recv hK hP (fw_V0 (f := 18) (by decide) (by decide)) rfl rfl, fun U hU9 hW9 => ⟨rfl, fw_pre hK hP hSt hS U hU9 hW9⟩⟩ rfl rfl hl.1 rfl (lv_room (Nat.le_of_ble_eq_true rfl)) dX10_loads_45 ⟨Nat.zero_le _, Nat.zero_le _⟩) hS (fun H locs hP hS => ?_)
            refine lv_aload_n hx hb dX10_loads_48 rfl (lv_at hl 0 rfl) ?_
            refine lv_aload_n hx hb dX10_loads_49 rfl (lv_at hl 0 rfl) ?_
            refine lv_iload_n hx hb dX10_loads_50 rfl (lv_at hl 2 rfl) ?_
            obtain ⟨r10, hc10, h⟩ := fw_b1_e h
            refine fw_ret (va_runV (As := [.int x2]) (rest := [.ref (fw_ad E 0 18)]) ⟨hx, hb, hml, hown, hU⟩ (k_X10_held l hE x2 hc10) (cwV 1 hU (fw_gV m_1239 m_1241 ms_21 m_9 m_1242) rfl rfl rfl (by decide +kernel) ⟨(Nat.le_of_ble_eq_true rfl), (Nat.le_of_ble_eq_true rfl)⟩) ⟨fw_blind, fw_recv hK hP (fw_V0 (f := 18) (by decide) (by decide)) rfl rfl, fun U hU9 hW9 => ⟨rfl, fw_pre hK hP hSt hS U hU9 hW9⟩⟩ rfl rfl hl.1 rfl (lv_room (Nat.le_of_ble_eq_true rfl)) dX10_loads_51 ⟨Nat.zero_le _, Nat.zero_le _⟩) hS (fun H locs hP hS => ?_)
            obtain ⟨μ11, r11, hc11, h⟩ := fw_b2_e h
            refine fw_ret (va_runV (As := [.int r10]) (rest := []) ⟨hx, hb, hml, hown, hU⟩ (k_X10_done l hE r10 hc11) (cwV 1 hU (fw_gV m_1204 m_1206 ms_14 m_9 m_1207) rfl rfl rfl (by decide +kernel) ⟨(Nat.le_of_ble_eq_true rfl), (Nat.le_of_ble_eq_true rfl)⟩) ⟨fw_blind, fw_recv hK hP (fw_V0 (f := 18) (by decide) (by decide)) rfl rfl, fun U hU9 hW9 => ⟨rfl, fw_pre hK hP hSt hS U hU9 hW9⟩⟩ rfl rfl hl.1 rfl (lv_room (Nat.le_of_ble_eq_true rfl)) dX10_loads_54 ⟨Nat.zero_le _, Nat.zero_le _⟩) hS (fun H locs hP hS => ?_)
            exact W.iret (v := r11) hx hb hr (fw_ew (mk := Value.int) h hP hS) hS.2.2 dX10_loads_57
          · rw [if_pos c8] at h
            refine lv_iconst (v := (3 : Int32)) hx hb dX10_loads_37 (by decide) ?_
            exact W.iret (v := (3 : Int32)) hx hb hr (fw_ew (mk := Value.int) h hP hS) hS.2.2 dX10_loads_38
        · rw [if_neg c6] at h
          refine lv_iconst (v := (2 : Int32)) hx hb dX10_loads_26 (by decide) ?_
          exact W.iret (v := (2 : Int32)) hx hb hr (fw_ew (mk := Value.int) h hP hS) hS.2.2 dX10_loads_27
      · rw [if_pos c4] at h
        refine lv_iconst (v := (1 : Int32)) hx hb dX10_loads_15 (by decide) ?_
        exact W.iret (v := (1 : Int32)) hx hb hr (fw_ew (mk := Value.int) h hP hS) hS.2.2 dX10_loads_16
  subst ha
  have hl := lv_entry ([.ref (fw_ad E 0 18), .int x1, .int x2]) (n := 3) (Nat.le_of_ble_eq_true rfl)
  rw [lg_entry_eq]
  generalize (lg_sl ([.ref (fw_ad E 0 18), .int x1, .int x2]) ++ List.replicate (3 - (lg_sl ([.ref (fw_ad E 0 18), .int x1, .int x2])).length) Slot.unset).toArray = ls at hl ⊢
  exact EN s.heap [] ls hP va_S.rf hl
set_option maxHeartbeats 4000000 in
set_option maxRecDepth 100000 in
theorem k_X10_takes (l : Launch) {E : fw_E} {o : Int64} {d : UInt64} (hE : fw_ok E) {μ μ' : fw_M} (x1 : Int32) {r : Int32} (h : f_X10_takes μ x1 = some (μ', r)) : Met l yX10_takes (fw_ws yX10_takes cX10_takes 3 (some .int)) ({ frames := 2, cells := 0, slots := 0, locals := 43 } : Room) (va_Pc [.ref (fw_ad E 0 18), .int x1] (fw_Pre E o d μ)) (fw_Q E o d (some (.int r)) μ') 0 0 (fw_A E) := by
  refine Met.ofW (cc := cX10_takes) (maxL := 3) (ret := (some .int)) (by decide) rfl ?_
  intro p e s m args below meth c s₁ B hml hv
  obtain ⟨ha, hK, hP, hSt⟩ := hv
  have hx := B.exec
  have hb := B.bytes
  have hr := B.returns
  have hts := atoms_spec (ws := fw_ws yX10_takes cX10_takes 3 (some .int)) B.pre
  have hU : ∀ w ∈ fw_U, w.before args s = true := fun w hw => hts w (List.mem_cons_of_mem _ hw)
  have hown : s.vm.findClass RX10 = some m.cls := findClass_of_methodNamed B.named
  have hlocks := B.notSynchronized
  have EN : ∀ (H : Heap) (locs : List Loc) (ls : Array Slot), fw_P E o d μ H → va_S (fw_A E) s.heap H locs → lv_has ls 3 [(0, .ref (fw_ad E 0 18)), (1, .int x1)] → W p l e (headSpec (fw_ws yX10_takes cX10_takes 3 (some .int)) ({ frames := 2, cells := 0, slots := 0, locals := 43 } : Room)).room s m args below meth c H locs 0 0 (MQ below (fw_Q E o d (some (.int r)) μ') args s 0 0 (fw_A E)) (F0 m 0 ls []) := by
    intro H locs ls hP hS hl
    unfold f_X10_takes at h
    refine lv_aload_n hx hb dX10_takes_0 rfl (lv_at hl 0 rfl) ?_
    refine lv_iload_n hx hb dX10_takes_1 rfl (lv_at hl 1 rfl) ?_
    obtain ⟨r1, hc1, h⟩ := fw_b1_e h
    refine fw_ret (va_runV (As := [.int x1]) (rest := []) ⟨hx, hb, hml, hown, hU⟩ (k_X10_isGarment l hE x1 hc1) (cwV 1 hU (fw_gV m_1228 m_1230 ms_19 m_9 m_1231) rfl rfl rfl (by decide +kernel) ⟨(Nat.le_of_ble_eq_true rfl), (Nat.le_of_ble_eq_true rfl)⟩) ⟨fw_blind, fw_recv hK hP (fw_V0 (f := 18) (by decide) (by decide)) rfl rfl, fun U hU9 hW9 => ⟨rfl, fw_pre hK hP hSt hS U hU9 hW9⟩⟩ rfl rfl hl.1 rfl (lv_room (Nat.le_of_ble_eq_true rfl)) dX10_takes_2 ⟨Nat.zero_le _, Nat.zero_le _⟩) hS (fun H locs hP hS => ?_)
    refine lv_if_ne (tgt := 10) hx hb dX10_takes_5 (by decide) (fun c2 => ?_) (fun c2 => ?_)
    · rw [if_neg c2] at h
      refine lv_aload_n hx hb dX10_takes_10 rfl (lv_at hl 0 rfl) ?_
      refine lv_iload_n hx hb dX10_takes_11 rfl (lv_at hl 1 rfl) ?_
      refine lv_iconst (v := (4 : Int32)) hx hb dX10_takes_12 (by decide) ?_
      obtain ⟨r3, hc3, h⟩ := fw_b1_e h
      refine fw_ret (va_runV (As := [.int x1, .int (4 : Int32)]) (rest := []) ⟨hx, hb, hml, hown, hU⟩ (k_X10_of l hE x1 (4 : Int32) hc3) (cwV 2 hU (fw_gV m_1235 m_1237 ms_20 m_9 m_1238) rfl rfl rfl (by decide +kernel) ⟨(Nat.le_of_ble_eq_true rfl), (Nat.le_of_ble_eq_true rfl)⟩) ⟨fw_blind, fw_recv hK hP (fw_V0 (f := 18) (by decide) (by decide)) rfl rfl, fun U hU9 hW9 => ⟨rfl, fw_pre hK hP hSt hS U hU9 hW9⟩⟩ rfl rfl hl.1 rfl (lv_room (Nat.le_of_ble_eq_true rfl)) dX10_takes_13 ⟨Nat.zero_le _, Nat.zero_le _⟩) hS (fun H locs hP hS => ?_)
      refine lv_istore_n (lv' := [(2, .int r3), (0, .ref (fw_ad E 0 18)), (1, .int x1)]) hx hb dX10_takes_16 rfl hl (by decide) rfl (fun ls hl => ?_)
      refine lv_iload_n hx hb dX10_takes_17 rfl (lv_at hl 0 rfl) ?_
      refine lv_if_eq (tgt := 26) hx hb dX10_takes_18 (by decide) (fun c4 => ?_) (fun c4 => ?_)
      · rw [if_pos c4] at h
        refine lv_iconst (v := (2 : Int32)) hx hb dX10_takes_26 (by decide) ?_
        exact W.iret (v := (2 : Int32)) hx hb hr (fw_ew (mk := Value.int) h hP hS) hS.2.2 dX10_takes_27
      · rw [if_neg c4] at h
        refine lv_iload_n hx hb dX10_takes_21 rfl (lv_at hl 0 rfl) ?_
        refine lv_iconst (v := (3 : Int32)) hx hb dX10_takes_22 (by decide) ?_
        refine lv_icmp_ne (tgt := 28) hx hb dX10_takes_23 (by decide) (fun c5 => ?_) (fun c5 => ?_)
        · rw [if_neg c5] at h
          refine lv_aload_n hx hb dX10_takes_28 rfl (lv_at hl 1 rfl) ?_
          refine lv_iload_n hx hb dX10_takes_29 rfl (lv_at hl 2 rfl) ?_
          refine lv_iconst (v := (4 : Int32)) hx hb dX10_takes_30 (by decide) ?_
          refine lv_iconst (v := (0 : Int32)) hx hb dX10_takes_31 (by decide) ?_
          obtain ⟨μ6, r6, hc6, h⟩ := fw_b2_e h
          refine fw_retv (va_runV (As := [.int x1, .int (4 : Int32), .int (0 : Int32)]) (rest := []) ⟨hx, hb, hml, hown, hU⟩ (k_X10_sets l hE x1 (4 : Int32) (0 : Int32) hc6) (cwV 3 hU (fw_gV m_1200 m_1202 ms_13 m_9 m_1203) rfl rfl rfl (by decide +kernel) ⟨(Nat.le_of_ble_eq_true rfl), (Nat.le_of_ble_eq_true rfl)⟩) ⟨fw_blind, fw_recv hK hP (fw_V0 (f := 18) (by decide) (by decide)) rfl rfl, fun U hU9 hW9 => ⟨rfl, fw_pre hK hP hSt hS U hU9 hW9⟩⟩ rfl rfl hl.1 rfl (lv_room (Nat.le_of_ble_eq_true rfl)) dX10_takes_32 ⟨Nat.zero_le _, Nat.zero_le _⟩) hS (fun H locs hP hS => ?_)
          refine lv_aload_n hx hb dX10_takes_35 rfl (lv_at hl 1 rfl) ?_
          refine lv_iload_n hx hb dX10_takes_36 rfl (lv_at hl 0 rfl) ?_
          refine lv_iconst (v := (1 : Int32)) hx hb dX10_takes_37 (by decide) ?_
          refine lv_isub hx hb dX10_takes_38 ?_
          obtain ⟨μ7, r7, hc7, h⟩ := fw_b2_e h
          refine fw_ret (va_runV (As := [.int (r3 - (1 : Int32))]) (rest := []) ⟨hx, hb, hml, hown, hU⟩ (k_X10_done l hE (r3 - (1 : Int32)) hc7) (cwV 1 hU (fw_gV m_1204 m_1206 ms_14 m_9 m_1207) rfl rfl rfl (by decide +kernel) ⟨(Nat.le_of_ble_eq_true rfl), (Nat.le_of_ble_eq_true rfl)⟩) ⟨fw_blind, fw_recv hK hP (fw_V0 (f := 18) (by decide) (by decide)) rfl rfl, fun U hU9 hW9 => ⟨rfl, fw_pre hK hP hSt hS U hU9 hW9⟩⟩ rfl rfl hl.1 rfl (lv_room (Nat.le_of_ble_eq_true rfl)) dX10_takes_39 ⟨Nat.zero_le _, Nat.zero_le _⟩) hS (fun H locs hP hS => ?_)
          exact W.iret (v := r7) hx hb hr (fw_ew (mk := Value.int) h hP hS) hS.2.2 dX10_takes_42
        · rw [if_pos c5] at h
          refine lv_iconst (v := (2 : Int32)) hx hb dX10_takes_26 (by decide) ?_
          exact W.iret (v := (2 : Int32)) hx hb hr (fw_ew (mk := Value.int) h hP hS) hS.2.2 dX10_takes_27
    · rw [if_pos c2] at h
      refine lv_iconst (v := (1 : Int32)) hx hb dX10_takes_8 (by decide) ?_
      exact W.iret (v := (1 : Int32)) hx hb hr (fw_ew (mk := Value.int) h hP hS) hS.2.2 dX10_takes_9
  subst ha
  have hl := lv_entry ([.ref (fw_ad E 0 18), .int x1]) (n := 3) (Nat.le_of_ble_eq_true rfl)
  rw [lg_entry_eq]
  generalize (lg_sl ([.ref (fw_ad E 0 18), .int x1]) ++ List.replicate (3 - (lg_sl ([.ref (fw_ad E 0 18), .int x1])).length) Slot.unset).toArray = ls at hl ⊢
  exact EN s.heap [] ls hP va_S.rf hl
set_option maxHeartbeats 4000000 in
set_option maxRecDepth 100000 in
theorem k_X10_heats (l : Launch) {E : fw_E} {o : Int64} {d : UInt64} (hE : fw_ok E) {μ μ' : fw_M} (x1 : Int32) (x2 : Int32) {r : Int32} (h : f_X10_heats μ x1 x2 = some (μ', r)) : Met l yX10_heats (fw_ws yX10_heats cX10_heats 4 (some .int)) ({ frames := 2, cells := 0, slots := 0, locals := 42 } : Room) (va_Pc [.ref (fw_ad E 0 18), .int x1, .int x2] (fw_Pre E o d μ)) (fw_Q E o d (some (.int r)) μ') 0 0 (fw_A E) := by
  refine Met.ofW (cc := cX10_heats) (maxL := 4) (ret := (some .int)) (by decide) rfl ?_
  intro p e s m args below meth c s₁ B hml hv
  obtain ⟨ha, hK, hP, hSt⟩ := hv
  have hx := B.exec
  have hb := B.bytes
  have hr := B.returns
  have hts := atoms_spec (ws := fw_ws yX10_heats cX10_heats 4 (some .int)) B.pre
  have hU : ∀ w ∈ fw_U, w.before args s = true := fun w hw => hts w (List.mem_cons_of_mem _ hw)
  have hown : s.vm.findClass RX10 = some m.cls := findClass_of_methodNamed B.named
  have hlocks := B.notSynchronized
  have EN : ∀ (H : Heap) (locs : List Loc) (ls : Array Slot), fw_P E o d μ H → va_S (fw_A E) s.heap H locs → lv_has ls 4 [(0, .ref (fw_ad E 0 18)), (1, .int x1), (2, .int x2)] → W p l e (headSpec (fw_ws yX10_heats cX10_heats 4 (some .int)) ({ frames := 2, cells := 0, slots := 0, locals := 42 } : Room)).room s m args below meth c H locs 0 0 (MQ below (fw_Q E o d (some (.int r)) μ') args s 0 0 (fw_A E)) (F0 m 0 ls []) := by
    intro H locs ls hP hS hl
    unfold f_X10_heats at h
    refine lv_iload_n hx hb dX10_heats_0 rfl (lv_at hl 1 rfl) ?_
    obtain ⟨r1, hc1, h⟩ := fw_b1_e h
    refine fw_ret (va_runS (As := [.int x1]) (rest := []) ⟨hx, hb, hml, hown, hU⟩ (k_X10_isMachine l hE x1 hc1) (va_cwS 1 hU (fw_gS m_1232 m_1233 m_9 m_1234) rfl rfl rfl (by decide +kernel) ⟨(Nat.le_of_ble_eq_true rfl), (Nat.le_of_ble_eq_true rfl)⟩) ⟨fw_blind, fun U hU9 hW9 => ⟨rfl, fw_pre hK hP hSt hS U hU9 hW9⟩⟩ rfl rfl hl.1 rfl (lv_room (Nat.le_of_ble_eq_true rfl)) dX10_heats_1 ⟨Nat.zero_le _, Nat.zero_le _⟩) hS (fun H locs hP hS => ?_)
    refine lv_if_ne (tgt := 9) hx hb dX10_heats_4 (by decide) (fun c2 => ?_) (fun c2 => ?_)
    · rw [if_neg c2] at h
      refine lv_iload_n hx hb dX10_heats_9 rfl (lv_at hl 2 rfl) ?_
      refine lv_bipush (v := (40 : Int32)) hx hb dX10_heats_10 (by decide) ?_
      refine lv_sipush (v := (180 : Int32)) hx hb dX10_heats_12 (by decide) ?_
      obtain ⟨r3, hc3, h⟩ := fw_b1_e h
      refine fw_ret (va_runS (As := [.int x2, .int (40 : Int32), .int (180 : Int32)]) (rest := []) ⟨hx, hb, hml, hown, hU⟩ (k_X10_in l hE x2 (40 : Int32) (180 : Int32) hc3) (va_cwS 3 hU (fw_gS m_1197 m_1198 m_9 m_1199) rfl rfl rfl (by decide +kernel) ⟨(Nat.le_of_ble_eq_true rfl), (Nat.le_of_ble_eq_true rfl)⟩) ⟨fw_blind, fun U hU9 hW9 => ⟨rfl, fw_pre hK hP hSt hS U hU9 hW9⟩⟩ rfl rfl hl.1 rfl (lv_room (Nat.le_of_ble_eq_true rfl)) dX10_heats_15 ⟨Nat.zero_le _, Nat.zero_le _⟩) hS (fun H locs hP hS => ?_)
      refine lv_if_ne (tgt := 23) hx hb dX10_heats_18 (by decide) (fun c4 => ?_) (fun c4 => ?_)
      · rw [if_neg c4] at h
        refine lv_aload_n hx hb dX10_heats_23 rfl (lv_at hl 0 rfl) ?_
        refine va_get (D := fw_D E) (ci := 8) (v := .ref (fw_ad E 0 19)) (C := RX10) (T := TX10) (N := 20) hx hb hU inU10 hown hK (fw_at hP (fw_V0 (f := 18) (by decide) (by decide))) 0 rfl rfl 1 (by decide) (hU (Cond.fieldLink RX10 7 "LaundryServiceModel" "s" "[I") m_1118) (fun _ h9 => h9) rfl dX10_heats_24 ?_
        refine lv_iconst (v := (2 : Int32)) hx hb dX10_heats_27 (by decide) ?_
        refine lv_iload_n hx hb dX10_heats_28 rfl (lv_at hl 1 rfl) ?_
        refine lv_iadd hx hb dX10_heats_29 ?_
        obtain ⟨g5, h⟩ := fw_g_e h
        refine va_iald (D := fw_D E) hx hb hK (fw_at hP (fw_V0 (f := 19) (by decide) (by decide))) 0 0 rfl rfl (fw_in_e g5) dX10_heats_30 ?_
        refine lv_istore_n (lv' := [(3, .int (μ 0 19 ((2 : Int32) + x1).toNatClampNeg)), (0, .ref (fw_ad E 0 18)), (1, .int x1), (2, .int x2)]) hx hb dX10_heats_31 rfl hl (by decide) rfl (fun ls hl => ?_)
        refine lv_aload_n hx hb dX10_heats_32 rfl (lv_at hl 1 rfl) ?_
        refine va_get (D := fw_D E) (ci := 8) (v := .ref (fw_ad E 0 19)) (C := RX10) (T := TX10) (N := 20) hx hb hU inU10 hown hK (fw_at hP (fw_V0 (f := 18) (by decide) (by decide))) 0 rfl rfl 1 (by decide) (hU (Cond.fieldLink RX10 7 "LaundryServiceModel" "s" "[I") m_1118) (fun _ h9 => h9) rfl dX10_heats_33 ?_
        refine lv_iconst (v := (2 : Int32)) hx hb dX10_heats_36 (by decide) ?_
        refine lv_iload_n hx hb dX10_heats_37 rfl (lv_at hl 2 rfl) ?_
        refine lv_iadd hx hb dX10_heats_38 ?_
        refine lv_iload_n hx hb dX10_heats_39 rfl (lv_at hl 3 rfl) ?_
        refine fw_iast (n := 104) hx hb hK hP hE hS (fw_V0 (f := 19) (by decide) (by decide)) (fun _ => rfl) (fw_in_e g5) dX10_heats_40 (fun H locs hP hS => ?_)
        obtain ⟨μ6, eμ6, h⟩ := fw_l_e h
        rw [← eμ6] at hP
        refine lv_aload_n hx hb dX10_heats_41 rfl (lv_at hl 1 rfl) ?_
        refine lv_iload_n hx hb dX10_heats_42 rfl (lv_at hl 0 rfl) ?_
        obtain ⟨μ7, r7, hc7, h⟩ := fw_b2_e h
        refine fw_ret (va_runV (As := [.int (μ 0 19 ((2 : Int32) + x1).toNatClampNeg)]) (rest := []) ⟨hx, hb, hml, hown, hU⟩ (k_X10_done l hE (μ 0 19 ((2 : Int32) + x1).toNatClampNeg) hc7) (cwV 1 hU (fw_gV m_1204 m_1206 ms_14 m_9 m_1207) rfl rfl rfl (by decide +kernel) ⟨(Nat.le_of_ble_eq_true rfl), (Nat.le_of_ble_eq_true rfl)⟩) ⟨fw_blind, fw_recv hK hP (fw_V0 (f := 18) (by decide) (by decide)) rfl rfl, fun U hU9 hW9 => ⟨rfl, fw_pre hK hP hSt hS U hU9 hW9⟩⟩ rfl rfl hl.1 rfl (lv_room (Nat.le_of_ble_eq_true rfl)) dX10_heats_43 ⟨Nat.zero_le _, Nat.zero_le _⟩) hS (fun H locs hP hS => ?_)
        exact W.iret (v := r7) hx hb hr (fw_ew (mk := Value.int) h hP hS) hS.2.2 dX10_heats_46
      · rw [if_pos c4] at h
        refine lv_iconst (v := (2 : Int32)) hx hb dX10_heats_21 (by decide) ?_
        exact W.iret (v := (2 : Int32)) hx hb hr (fw_ew (mk := Value.int) h hP hS) hS.2.2 dX10_heats_22
    · rw [if_pos c2] at h
      refine lv_iconst (v := (1 : Int32)) hx hb dX10_heats_7 (by decide) ?_
      exact W.iret (v := (1 : Int32)) hx hb hr (fw_ew (mk := Value.int) h hP hS) hS.2.2 dX10_heats_8
  subst ha
  have hl := lv_entry ([.ref (fw_ad E 0 18), .int x1, .int x2]) (n := 4) (Nat.le_of_ble_eq_true rfl)
  rw [lg_entry_eq]
  generalize (lg_sl ([.ref (fw_ad E 0 18), .int x1, .int x2]) ++ List.replicate (4 - (lg_sl ([.ref (fw_ad E 0 18), .int x1, .int x2])).length) Slot.unset).toArray = ls at hl ⊢
  exact EN s.heap [] ls hP va_S.rf hl
set_option maxHeartbeats 4000000 in
set_option maxRecDepth 100000 in
theorem k_X10_washesAll (l : Launch) {E : fw_E} {o : Int64} {d : UInt64} (hE : fw_ok E) {μ μ' : fw_M} (x1 : Int32) {r : Int32} (h : f_X10_washesAll μ x1 = some (μ', r)) : Met l yX10_washesAll (fw_ws yX10_washesAll cX10_washesAll 6 (some .int)) ({ frames := 5, cells := 0, slots := 0, locals := 113 } : Room) (va_Pc [.ref (fw_ad E 0 18), .int x1] (fw_Pre E o d μ)) (fw_Q E o d (some (.int r)) μ') 0 0 (fw_A E) := by
  refine Met.ofW (cc := cX10_washesAll) (maxL := 6) (ret := (some .int)) (by decide) rfl ?_
  intro p e s m args below meth c s₁ B hml hv
  obtain ⟨ha, hK, hP, hSt⟩ := hv
  have hx := B.exec
  have hb := B.bytes
  have hr := B.returns
  have hts := atoms_spec (ws := fw_ws yX10_washesAll cX10_washesAll 6 (some .int)) B.pre
  have hU : ∀ w ∈ fw_U, w.before args s = true := fun w hw => hts w (List.mem_cons_of_mem _ hw)
  have hown : s.vm.findClass RX10 = some m.cls := findClass_of_methodNamed B.named
  have hlocks := B.notSynchronized
  have L197 : ∀ (n : Nat) (μ : fw_M) (x3 : Int32) (x4 : Int32) (H : Heap) (locs : List Loc) (ls : Array Slot), f_X10_washesAll_L197 n μ x3 x4 = some (μ', r) → fw_P E o d μ H → va_S (fw_A E) s.heap H locs → lv_has ls 6 [(0, .ref (fw_ad E 0 18)), (3, .int x3), (4, .int x4)] → W p l e (headSpec (fw_ws yX10_washesAll cX10_washesAll 6 (some .int)) ({ frames := 5, cells := 0, slots := 0, locals := 113 } : Room)).room s m args below meth c H locs 0 0 (MQ below (fw_Q E o d (some (.int r)) μ') args s 0 0 (fw_A E)) (F0 m 197 ls []) := by
    intro n197
    induction n197 with
    | zero => intro μ x3 x4 H locs ls h; rw [f_X10_washesAll_L197] at h; cases h
    | succ n197 ih197 =>
      have J279 : ∀ (μ : fw_M) (x3 : Int32) (x4 : Int32) (x5 : Int32) (s1 : Int32) (s2 : Int32) (s3 : Int32) (H : Heap) (locs : List Loc) (ls : Array Slot), f_X10_washesAll_J279 (f_X10_washesAll_L197 n197) μ x3 x4 x5 s1 s2 s3 = some (μ', r) → fw_P E o d μ H → va_S (fw_A E) s.heap H locs → lv_has ls 6 [(0, .ref (fw_ad E 0 18)), (3, .int x3), (4, .int x4), (5, .int x5)] → W p l e (headSpec (fw_ws yX10_washesAll cX10_washesAll 6 (some .int)) ({ frames := 5, cells := 0, slots := 0, locals := 113 } : Room)).room s m args below meth c H locs 0 0 (MQ below (fw_Q E o d (some (.int r)) μ') args s 0 0 (fw_A E)) (F0 m 279 ls [.int s3, .int s2, .int s1, .ref (fw_ad E 0 18)]) := by
        intro μ x3 x4 x5 s1 s2 s3 H locs ls h hP hS hl
        unfold f_X10_washesAll_J279 at h
        obtain ⟨μ45, r45, hc45, h⟩ := fw_b2_e h
        refine fw_retv (va_runV (As := [.int s1, .int s2, .int s3]) (rest := []) ⟨hx, hb, hml, hown, hU⟩ (k_X10_sets l hE s1 s2 s3 hc45) (cwV 3 hU (fw_gV m_1200 m_1202 ms_13 m_9 m_1203) rfl rfl rfl (by decide +kernel) ⟨(Nat.le_of_ble_eq_true rfl), (Nat.le_of_ble_eq_true rfl)⟩) ⟨fw_blind, fw_recv hK hP (fw_V0 (f := 18) (by decide) (by decide)) rfl rfl, fun U hU9 hW9 => ⟨rfl, fw_pre hK hP hSt hS U hU9 hW9⟩⟩ rfl rfl hl.1 rfl (lv_room (Nat.le_of_ble_eq_true rfl)) dX10_washesAll_279 ⟨Nat.zero_le _, Nat.zero_le _⟩) hS (fun H locs hP hS => ?_)
        refine lv_aload_n hx hb dX10_washesAll_282 rfl (lv_at hl 0 rfl) ?_
        refine lv_iload hx hb dX10_washesAll_283 (lv_at hl 2 rfl) ?_
        refine lv_iconst (v := (5 : Int32)) hx hb dX10_washesAll_285 (by decide) ?_
        refine lv_aload_n hx hb dX10_washesAll_286 rfl (lv_at hl 0 rfl) ?_
        refine lv_iload hx hb dX10_washesAll_287 (lv_at hl 2 rfl) ?_
        refine lv_iconst (v := (5 : Int32)) hx hb dX10_washesAll_289 (by decide) ?_
        obtain ⟨r46, hc46, h⟩ := fw_b1_e h
        refine fw_ret (va_runV (As := [.int x4, .int (5 : Int32)]) (rest := [.int (5 : Int32), .int x4, .ref (fw_ad E 0 18)]) ⟨hx, hb, hml, hown, hU⟩ (k_X10_of l hE x4 (5 : Int32) hc46) (cwV 2 hU (fw_gV m_1235 m_1237 ms_20 m_9 m_1238) rfl rfl rfl (by decide +kernel) ⟨(Nat.le_of_ble_eq_true rfl), (Nat.le_of_ble_eq_true rfl)⟩) ⟨fw_blind, fw_recv hK hP (fw_V0 (f := 18) (by decide) (by decide)) rfl rfl, fun U hU9 hW9 => ⟨rfl, fw_pre hK hP hSt hS U hU9 hW9⟩⟩ rfl rfl hl.1 rfl (lv_room (Nat.le_of_ble_eq_true rfl)) dX10_washesAll_290 ⟨Nat.zero_le _, Nat.zero_le _⟩) hS (fun H locs hP hS => ?_)
        refine lv_iconst (v := (1 : Int32)) hx hb dX10_washesAll_293 (by decide) ?_
        refine lv_iadd hx hb dX10_washesAll_294 ?_
        obtain ⟨μ47, r47, hc47, h⟩ := fw_b2_e h
        refine fw_retv (va_runV (As := [.int x4, .int (5 : Int32), .int (r46 + (1 : Int32))]) (rest := []) ⟨hx, hb, hml, hown, hU⟩ (k_X10_sets l hE x4 (5 : Int32) (r46 + (1 : Int32)) hc47) (cwV 3 hU (fw_gV m_1200 m_1202 ms_13 m_9 m_1203) rfl rfl rfl (by decide +kernel) ⟨(Nat.le_of_ble_eq_true rfl), (Nat.le_of_ble_eq_true rfl)⟩) ⟨fw_blind, fw_recv hK hP (fw_V0 (f := 18) (by decide) (by decide)) rfl rfl, fun U hU9 hW9 => ⟨rfl, fw_pre hK hP hSt hS U hU9 hW9⟩⟩ rfl rfl hl.1 rfl (lv_room (Nat.le_of_ble_eq_true rfl)) dX10_washesAll_295 ⟨Nat.zero_le _, Nat.zero_le _⟩) hS (fun H locs hP hS => ?_)
        refine lv_iload_n hx hb dX10_washesAll_298 rfl (lv_at hl 1 rfl) ?_
        refine lv_iload hx hb dX10_washesAll_299 (lv_at hl 3 rfl) ?_
        refine lv_if_eq (tgt := 308) hx hb dX10_washesAll_301 (by decide) (fun c48 => ?_) (fun c48 => ?_)
        · rw [if_pos c48] at h
          refine lv_iconst (v := (0 : Int32)) hx hb dX10_washesAll_308 (by decide) ?_
          refine lv_iadd hx hb dX10_washesAll_309 ?_
          refine lv_istore_n (lv' := [(3, .int (x3 + (0 : Int32))), (0, .ref (fw_ad E 0 18)), (4, .int x4), (5, .int x5)]) hx hb dX10_washesAll_310 rfl hl (by decide) rfl (fun ls hl => ?_)
          refine lv_iinc (v := (x4 + (1 : Int32))) (lv' := [(4, .int (x4 + (1 : Int32))), (3, .int (x3 + (0 : Int32))), (0, .ref (fw_ad E 0 18)), (5, .int x5)]) hx hb dX10_washesAll_311 hl (k := 2) rfl rfl (by decide) rfl (fun ls hl => ?_)
          refine lv_goto (tgt := 197) hx hb dX10_washesAll_314 (by decide) ?_
          exact ih197 μ47 (x3 + (0 : Int32)) (x4 + (1 : Int32)) H locs ls h hP hS (lv_sub hl [2, 1, 0] rfl)
        · rw [if_neg c48] at h
          refine lv_iconst (v := (1 : Int32)) hx hb dX10_washesAll_304 (by decide) ?_
          refine lv_goto (tgt := 309) hx hb dX10_washesAll_305 (by decide) ?_
          refine lv_iadd hx hb dX10_washesAll_309 ?_
          refine lv_istore_n (lv' := [(3, .int (x3 + (1 : Int32))), (0, .ref (fw_ad E 0 18)), (4, .int x4), (5, .int x5)]) hx hb dX10_washesAll_310 rfl hl (by decide) rfl (fun ls hl => ?_)
          refine lv_iinc (v := (x4 + (1 : Int32))) (lv' := [(4, .int (x4 + (1 : Int32))), (3, .int (x3 + (1 : Int32))), (0, .ref (fw_ad E 0 18)), (5, .int x5)]) hx hb dX10_washesAll_311 hl (k := 2) rfl rfl (by decide) rfl (fun ls hl => ?_)
          refine lv_goto (tgt := 197) hx hb dX10_washesAll_314 (by decide) ?_
          exact ih197 μ47 (x3 + (1 : Int32)) (x4 + (1 : Int32)) H locs ls h hP hS (lv_sub hl [2, 1, 0] rfl)
      have J262 : ∀ (μ : fw_M) (x3 : Int32) (x4 : Int32) (x5 : Int32) (s1 : Int32) (s2 : Int32) (s3 : Int32) (H : Heap) (locs : List Loc) (ls : Array Slot), f_X10_washesAll_J262 (f_X10_washesAll_L197 n197) μ x3 x4 x5 s1 s2 s3 = some (μ', r) → fw_P E o d μ H → va_S (fw_A E) s.heap H locs → lv_has ls 6 [(0, .ref (fw_ad E 0 18)), (3, .int x3), (4, .int x4), (5, .int x5)] → W p l e (headSpec (fw_ws yX10_washesAll cX10_washesAll 6 (some .int)) ({ frames := 5, cells := 0, slots := 0, locals := 113 } : Room)).room s m args below meth c H locs 0 0 (MQ below (fw_Q E o d (some (.int r)) μ') args s 0 0 (fw_A E)) (F0 m 262 ls [.int s3, .int s2, .int s1, .ref (fw_ad E 0 18)]) := by
        intro μ x3 x4 x5 s1 s2 s3 H locs ls h hP hS hl
        unfold f_X10_washesAll_J262 at h
        obtain ⟨μ43, r43, hc43, h⟩ := fw_b2_e h
        refine fw_retv (va_runV (As := [.int s1, .int s2, .int s3]) (rest := []) ⟨hx, hb, hml, hown, hU⟩ (k_X10_sets l hE s1 s2 s3 hc43) (cwV 3 hU (fw_gV m_1200 m_1202 ms_13 m_9 m_1203) rfl rfl rfl (by decide +kernel) ⟨(Nat.le_of_ble_eq_true rfl), (Nat.le_of_ble_eq_true rfl)⟩) ⟨fw_blind, fw_recv hK hP (fw_V0 (f := 18) (by decide) (by decide)) rfl rfl, fun U hU9 hW9 => ⟨rfl, fw_pre hK hP hSt hS U hU9 hW9⟩⟩ rfl rfl hl.1 rfl (lv_room (Nat.le_of_ble_eq_true rfl)) dX10_washesAll_262 ⟨Nat.zero_le _, Nat.zero_le _⟩) hS (fun H locs hP hS => ?_)
        refine lv_aload_n hx hb dX10_washesAll_265 rfl (lv_at hl 0 rfl) ?_
        refine lv_iload hx hb dX10_washesAll_266 (lv_at hl 2 rfl) ?_
        refine lv_iconst (v := (4 : Int32)) hx hb dX10_washesAll_268 (by decide) ?_
        refine lv_iload hx hb dX10_washesAll_269 (lv_at hl 3 rfl) ?_
        refine lv_if_eq (tgt := 278) hx hb dX10_washesAll_271 (by decide) (fun c44 => ?_) (fun c44 => ?_)
        · rw [if_pos c44] at h
          refine lv_iconst (v := (0 : Int32)) hx hb dX10_washesAll_278 (by decide) ?_
          exact J279 μ43 x3 x4 x5 x4 (4 : Int32) (0 : Int32) H locs ls h hP hS (lv_sub hl [0, 1, 2, 3] rfl)
        · rw [if_neg c44] at h
          refine lv_iconst (v := (3 : Int32)) hx hb dX10_washesAll_274 (by decide) ?_
          refine lv_goto (tgt := 279) hx hb dX10_washesAll_275 (by decide) ?_
          exact J279 μ43 x3 x4 x5 x4 (4 : Int32) (3 : Int32) H locs ls h hP hS (lv_sub hl [0, 1, 2, 3] rfl)
      have J240 : ∀ (μ : fw_M) (x3 : Int32) (x4 : Int32) (s0 : Int32) (H : Heap) (locs : List Loc) (ls : Array Slot), f_X10_washesAll_J240 (f_X10_washesAll_L197 n197) μ x3 x4 s0 = some (μ', r) → fw_P E o d μ H → va_S (fw_A E) s.heap H locs → lv_has ls 6 [(0, .ref (fw_ad E 0 18)), (3, .int x3), (4, .int x4)] → W p l e (headSpec (fw_ws yX10_washesAll cX10_washesAll 6 (some .int)) ({ frames := 5, cells := 0, slots := 0, locals := 113 } : Room)).room s m args below meth c H locs 0 0 (MQ below (fw_Q E o d (some (.int r)) μ') args s 0 0 (fw_A E)) (F0 m 240 ls [.int s0]) := by
        intro μ x3 x4 s0 H locs ls h hP hS hl
        unfold f_X10_washesAll_J240 at h
        refine lv_istore (lv' := [(5, .int s0), (0, .ref (fw_ad E 0 18)), (3, .int x3), (4, .int x4)]) hx hb dX10_washesAll_240 hl (by decide) rfl (fun ls hl => ?_)
        refine lv_aload_n hx hb dX10_washesAll_242 rfl (lv_at hl 1 rfl) ?_
        refine lv_iload hx hb dX10_washesAll_243 (lv_at hl 3 rfl) ?_
        refine lv_iconst (v := (3 : Int32)) hx hb dX10_washesAll_245 (by decide) ?_
        refine lv_iload hx hb dX10_washesAll_246 (lv_at hl 0 rfl) ?_
        refine lv_if_eq (tgt := 255) hx hb dX10_washesAll_248 (by decide) (fun c41 => ?_) (fun c41 => ?_)
        · rw [if_pos c41] at h
          refine lv_aload_n hx hb dX10_washesAll_255 rfl (lv_at hl 1 rfl) ?_
          refine va_get (D := fw_D E) (ci := 8) (v := .ref (fw_ad E 0 26)) (C := RX10) (T := TX10) (N := 20) hx hb hU inU10 hown hK (fw_at hP (fw_V0 (f := 18) (by decide) (by decide))) 0 rfl rfl 10 (by decide) (hU (Cond.fieldLink RX10 31 "LaundryServiceModel" "after" "[I") m_1127) (fun _ h9 => h9) rfl dX10_washesAll_256 ?_
          refine lv_iload hx hb dX10_washesAll_259 (lv_at hl 3 rfl) ?_
          obtain ⟨g42, h⟩ := fw_g_e h
          refine va_iald (D := fw_D E) hx hb hK (fw_at hP (fw_V0 (f := 26) (by decide) (by decide))) 0 0 rfl rfl (fw_in_e g42) dX10_washesAll_261 ?_
          exact J262 μ x3 x4 s0 x4 (3 : Int32) (μ 0 26 x4.toNatClampNeg) H locs ls h hP hS (lv_sub hl [1, 2, 3, 0] rfl)
        · rw [if_neg c41] at h
          refine lv_iconst (v := (0 : Int32)) hx hb dX10_washesAll_251 (by decide) ?_
          refine lv_goto (tgt := 262) hx hb dX10_washesAll_252 (by decide) ?_
          exact J262 μ x3 x4 s0 x4 (3 : Int32) (0 : Int32) H locs ls h hP hS (lv_sub hl [1, 2, 3, 0] rfl)
      intro μ x3 x4 H locs ls h hP hS hl
      rw [f_X10_washesAll_L197] at h
      refine lv_iload hx hb dX10_washesAll_197 (lv_at hl 2 rfl) ?_
      refine lv_aload_n hx hb dX10_washesAll_199 rfl (lv_at hl 0 rfl) ?_
      refine va_get (D := fw_D E) (ci := 8) (v := .ref (fw_ad E 0 19)) (C := RX10) (T := TX10) (N := 20) hx hb hU inU10 hown hK (fw_at hP (fw_V0 (f := 18) (by decide) (by decide))) 0 rfl rfl 1 (by decide) (hU (Cond.fieldLink RX10 7 "LaundryServiceModel" "s" "[I") m_1118) (fun _ h9 => h9) rfl dX10_washesAll_200 ?_
      refine lv_iconst (v := (0 : Int32)) hx hb dX10_washesAll_203 (by decide) ?_
      refine va_iald (D := fw_D E) hx hb hK (fw_at hP (fw_V0 (f := 19) (by decide) (by decide))) 0 0 rfl rfl (fw_in_e (n := 104) (by decide)) dX10_washesAll_204 ?_
      refine lv_icmp_ge (tgt := 317) hx hb dX10_washesAll_205 (by decide) (fun c34 => ?_) (fun c34 => ?_)
      · rw [if_pos c34] at h
        refine lv_aload_n hx hb dX10_washesAll_317 rfl (lv_at hl 0 rfl) ?_
        refine va_get (D := fw_D E) (ci := 8) (v := .ref (fw_ad E 0 19)) (C := RX10) (T := TX10) (N := 20) hx hb hU inU10 hown hK (fw_at hP (fw_V0 (f := 18) (by decide) (by decide))) 0 rfl rfl 1 (by decide) (hU (Cond.fieldLink RX10 7 "LaundryServiceModel" "s" "[I") m_1118) (fun _ h9 => h9) rfl dX10_washesAll_318 ?_
        refine lv_iconst (v := (1 : Int32)) hx hb dX10_washesAll_321 (by decide) ?_
        refine lv_dup2_11 hx hb dX10_washesAll_322 rfl rfl ?_
        refine va_iald (D := fw_D E) hx hb hK (fw_at hP (fw_V0 (f := 19) (by decide) (by decide))) 0 0 rfl rfl (fw_in_e (n := 104) (by decide)) dX10_washesAll_323 ?_
        refine lv_iconst (v := (1 : Int32)) hx hb dX10_washesAll_324 (by decide) ?_
        refine lv_iadd hx hb dX10_washesAll_325 ?_
        obtain ⟨g35, h⟩ := fw_g_e h
        refine fw_iast (n := 104) hx hb hK hP hE hS (fw_V0 (f := 19) (by decide) (by decide)) (fun _ => rfl) (fw_in_e g35) dX10_washesAll_326 (fun H locs hP hS => ?_)
        obtain ⟨μ36, eμ36, h⟩ := fw_l_e h
        rw [← eμ36] at hP
        refine lv_aload_n hx hb dX10_washesAll_327 rfl (lv_at hl 0 rfl) ?_
        refine lv_iload_n hx hb dX10_washesAll_328 rfl (lv_at hl 1 rfl) ?_
        obtain ⟨μ37, r37, hc37, h⟩ := fw_b2_e h
        refine fw_ret (va_runV (As := [.int x3]) (rest := []) ⟨hx, hb, hml, hown, hU⟩ (k_X10_done l hE x3 hc37) (cwV 1 hU (fw_gV m_1204 m_1206 ms_14 m_9 m_1207) rfl rfl rfl (by decide +kernel) ⟨(Nat.le_of_ble_eq_true rfl), (Nat.le_of_ble_eq_true rfl)⟩) ⟨fw_blind, fw_recv hK hP (fw_V0 (f := 18) (by decide) (by decide)) rfl rfl, fun U hU9 hW9 => ⟨rfl, fw_pre hK hP hSt hS U hU9 hW9⟩⟩ rfl rfl hl.1 rfl (lv_room (Nat.le_of_ble_eq_true rfl)) dX10_washesAll_329 ⟨Nat.zero_le _, Nat.zero_le _⟩) hS (fun H locs hP hS => ?_)
        exact W.iret (v := r37) hx hb hr (fw_ew (mk := Value.int) h hP hS) hS.2.2 dX10_washesAll_332
      · rw [if_neg c34] at h
        refine lv_aload_n hx hb dX10_washesAll_208 rfl (lv_at hl 0 rfl) ?_
        refine va_get (D := fw_D E) (ci := 8) (v := .ref (fw_ad E 0 26)) (C := RX10) (T := TX10) (N := 20) hx hb hU inU10 hown hK (fw_at hP (fw_V0 (f := 18) (by decide) (by decide))) 0 rfl rfl 10 (by decide) (hU (Cond.fieldLink RX10 31 "LaundryServiceModel" "after" "[I") m_1127) (fun _ h9 => h9) rfl dX10_washesAll_209 ?_
        refine lv_iload hx hb dX10_washesAll_212 (lv_at hl 2 rfl) ?_
        obtain ⟨g38, h⟩ := fw_g_e h
        refine va_iald (D := fw_D E) hx hb hK (fw_at hP (fw_V0 (f := 26) (by decide) (by decide))) 0 0 rfl rfl (fw_in_e g38) dX10_washesAll_214 ?_
        refine lv_iconst (v := (-1 : Int32)) hx hb dX10_washesAll_215 (by decide) ?_
        refine lv_icmp_ne (tgt := 222) hx hb dX10_washesAll_216 (by decide) (fun c39 => ?_) (fun c39 => ?_)
        · rw [if_neg c39] at h
          refine lv_aload_n hx hb dX10_washesAll_222 rfl (lv_at hl 0 rfl) ?_
          refine va_get (D := fw_D E) (ci := 8) (v := .ref (fw_ad E 0 26)) (C := RX10) (T := TX10) (N := 20) hx hb hU inU10 hown hK (fw_at hP (fw_V0 (f := 18) (by decide) (by decide))) 0 rfl rfl 10 (by decide) (hU (Cond.fieldLink RX10 31 "LaundryServiceModel" "after" "[I") m_1127) (fun _ h9 => h9) rfl dX10_washesAll_223 ?_
          refine lv_iload hx hb dX10_washesAll_226 (lv_at hl 2 rfl) ?_
          refine va_iald (D := fw_D E) hx hb hK (fw_at hP (fw_V0 (f := 26) (by decide) (by decide))) 0 0 rfl rfl (fw_in_e g38) dX10_washesAll_228 ?_
          refine lv_sipush (v := (256 : Int32)) hx hb dX10_washesAll_229 (by decide) ?_
          refine lv_icmp_ne (tgt := 239) hx hb dX10_washesAll_232 (by decide) (fun c40 => ?_) (fun c40 => ?_)
          · rw [if_neg c40] at h
            refine lv_iconst (v := (0 : Int32)) hx hb dX10_washesAll_239 (by decide) ?_
            exact J240 μ x3 x4 (0 : Int32) H locs ls h hP hS (lv_sub hl [0, 1, 2] rfl)
          · rw [if_pos c40] at h
            refine lv_iconst (v := (1 : Int32)) hx hb dX10_washesAll_235 (by decide) ?_
            refine lv_goto (tgt := 240) hx hb dX10_washesAll_236 (by decide) ?_
            exact J240 μ x3 x4 (1 : Int32) H locs ls h hP hS (lv_sub hl [0, 1, 2] rfl)
        · rw [if_pos c39] at h
          refine lv_goto (tgt := 311) hx hb dX10_washesAll_219 (by decide) ?_
          refine lv_iinc (v := (x4 + (1 : Int32))) (lv' := [(4, .int (x4 + (1 : Int32))), (0, .ref (fw_ad E 0 18)), (3, .int x3)]) hx hb dX10_washesAll_311 hl (k := 2) rfl rfl (by decide) rfl (fun ls hl => ?_)
          refine lv_goto (tgt := 197) hx hb dX10_washesAll_314 (by decide) ?_
          exact ih197 μ x3 (x4 + (1 : Int32)) H locs ls h hP hS (lv_sub hl [1, 2, 0] rfl)
  have L131 : ∀ (n : Nat) (μ : fw_M) (x1 : Int32) (x2 : Int32) (x3 : Int32) (x4 : Int32) (H : Heap) (locs : List Loc) (ls : Array Slot), f_X10_washesAll_L131 n μ x1 x2 x3 x4 = some (μ', r) → fw_P E o d μ H → va_S (fw_A E) s.heap H locs → lv_has ls 6 [(0, .ref (fw_ad E 0 18)), (1, .int x1), (2, .int x2), (3, .int x3), (4, .int x4)] → W p l e (headSpec (fw_ws yX10_washesAll cX10_washesAll 6 (some .int)) ({ frames := 5, cells := 0, slots := 0, locals := 113 } : Room)).room s m args below meth c H locs 0 0 (MQ below (fw_Q E o d (some (.int r)) μ') args s 0 0 (fw_A E)) (F0 m 131 ls []) := by
    intro n131
    induction n131 with
    | zero => intro μ x1 x2 x3 x4 H locs ls h; rw [f_X10_washesAll_L131] at h; cases h
    | succ n131 ih131 =>
      intro μ x1 x2 x3 x4 H locs ls h hP hS hl
      rw [f_X10_washesAll_L131] at h
      refine lv_iload hx hb dX10_washesAll_131 (lv_at hl 4 rfl) ?_
      refine lv_aload_n hx hb dX10_washesAll_133 rfl (lv_at hl 0 rfl) ?_
      refine va_get (D := fw_D E) (ci := 8) (v := .ref (fw_ad E 0 19)) (C := RX10) (T := TX10) (N := 20) hx hb hU inU10 hown hK (fw_at hP (fw_V0 (f := 18) (by decide) (by decide))) 0 rfl rfl 1 (by decide) (hU (Cond.fieldLink RX10 7 "LaundryServiceModel" "s" "[I") m_1118) (fun _ h9 => h9) rfl dX10_washesAll_134 ?_
      refine lv_iconst (v := (0 : Int32)) hx hb dX10_washesAll_137 (by decide) ?_
      refine va_iald (D := fw_D E) hx hb hK (fw_at hP (fw_V0 (f := 19) (by decide) (by decide))) 0 0 rfl rfl (fw_in_e (n := 104) (by decide)) dX10_washesAll_138 ?_
      refine lv_icmp_ge (tgt := 194) hx hb dX10_washesAll_139 (by decide) (fun c22 => ?_) (fun c22 => ?_)
      · rw [if_pos c22] at h
        refine lv_iconst (v := (0 : Int32)) hx hb dX10_washesAll_194 (by decide) ?_
        refine lv_istore (lv' := [(4, .int (0 : Int32)), (0, .ref (fw_ad E 0 18)), (1, .int x1), (2, .int x2), (3, .int x3)]) hx hb dX10_washesAll_195 hl (by decide) rfl (fun ls hl => ?_)
        exact L197 1000 μ x3 (0 : Int32) H locs ls h hP hS (lv_sub hl [1, 4, 0] rfl)
      · rw [if_neg c22] at h
        refine lv_aload_n hx hb dX10_washesAll_142 rfl (lv_at hl 0 rfl) ?_
        refine va_get (D := fw_D E) (ci := 8) (v := .ref (fw_ad E 0 26)) (C := RX10) (T := TX10) (N := 20) hx hb hU inU10 hown hK (fw_at hP (fw_V0 (f := 18) (by decide) (by decide))) 0 rfl rfl 10 (by decide) (hU (Cond.fieldLink RX10 31 "LaundryServiceModel" "after" "[I") m_1127) (fun _ h9 => h9) rfl dX10_washesAll_143 ?_
        refine lv_iload hx hb dX10_washesAll_146 (lv_at hl 4 rfl) ?_
        refine lv_aload_n hx hb dX10_washesAll_148 rfl (lv_at hl 0 rfl) ?_
        refine lv_iload hx hb dX10_washesAll_149 (lv_at hl 4 rfl) ?_
        refine lv_iload_n hx hb dX10_washesAll_151 rfl (lv_at hl 1 rfl) ?_
        obtain ⟨r23, hc23, h⟩ := fw_b1_e h
        refine fw_ret (va_runV (As := [.int x4, .int x1]) (rest := [.int x4, .ref (fw_ad E 0 26)]) ⟨hx, hb, hml, hown, hU⟩ (k_X10_isInside l hE x4 x1 hc23) (cwV 2 hU (fw_gV m_1243 m_1245 ms_22 m_9 m_1246) rfl rfl rfl (by decide +kernel) ⟨(Nat.le_of_ble_eq_true rfl), (Nat.le_of_ble_eq_true rfl)⟩) ⟨fw_blind, fw_recv hK hP (fw_V0 (f := 18) (by decide) (by decide)) rfl rfl, fun U hU9 hW9 => ⟨rfl, fw_pre hK hP hSt hS U hU9 hW9⟩⟩ rfl rfl hl.1 rfl (lv_room (Nat.le_of_ble_eq_true rfl)) dX10_washesAll_152 ⟨Nat.zero_le _, Nat.zero_le _⟩) hS (fun H locs hP hS => ?_)
        refine lv_if_ne (tgt := 162) hx hb dX10_washesAll_155 (by decide) (fun c24 => ?_) (fun c24 => ?_)
        · rw [if_neg c24] at h
          refine lv_aload_n hx hb dX10_washesAll_162 rfl (lv_at hl 0 rfl) ?_
          refine lv_iload hx hb dX10_washesAll_163 (lv_at hl 4 rfl) ?_
          refine lv_iload_n hx hb dX10_washesAll_165 rfl (lv_at hl 1 rfl) ?_
          refine lv_iload_n hx hb dX10_washesAll_166 rfl (lv_at hl 2 rfl) ?_
          obtain ⟨r27, hc27, h⟩ := fw_b1_e h
          refine fw_ret (va_runV (As := [.int x4, .int x1, .int x2]) (rest := [.int x4, .ref (fw_ad E 0 26)]) ⟨hx, hb, hml, hown, hU⟩ (k_X10_isLost l hE x4 x1 x2 hc27) (cwV 3 hU (fw_gV m_1303 m_1305 ms_30 m_9 m_1306) rfl rfl rfl (by decide +kernel) ⟨(Nat.le_of_ble_eq_true rfl), (Nat.le_of_ble_eq_true rfl)⟩) ⟨fw_blind, fw_recv hK hP (fw_V0 (f := 18) (by decide) (by decide)) rfl rfl, fun U hU9 hW9 => ⟨rfl, fw_pre hK hP hSt hS U hU9 hW9⟩⟩ rfl rfl hl.1 rfl (lv_room (Nat.le_of_ble_eq_true rfl)) dX10_washesAll_167 ⟨Nat.zero_le _, Nat.zero_le _⟩) hS (fun H locs hP hS => ?_)
          refine lv_if_eq (tgt := 179) hx hb dX10_washesAll_170 (by decide) (fun c28 => ?_) (fun c28 => ?_)
          · rw [if_pos c28] at h
            refine lv_aload_n hx hb dX10_washesAll_179 rfl (lv_at hl 0 rfl) ?_
            refine lv_iload hx hb dX10_washesAll_180 (lv_at hl 4 rfl) ?_
            refine lv_iload_n hx hb dX10_washesAll_182 rfl (lv_at hl 1 rfl) ?_
            refine lv_iload_n hx hb dX10_washesAll_183 rfl (lv_at hl 2 rfl) ?_
            obtain ⟨r29, hc29, h⟩ := fw_b1_e h
            refine fw_ret (va_runV (As := [.int x4, .int x1, .int x2]) (rest := [.int x4, .ref (fw_ad E 0 26)]) ⟨hx, hb, hml, hown, hU⟩ (k_X10_stained l hE x4 x1 x2 hc29) (cwV 3 hU (fw_gV m_1307 m_1309 ms_31 m_9 m_1310) rfl rfl rfl (by decide +kernel) ⟨(Nat.le_of_ble_eq_true rfl), (Nat.le_of_ble_eq_true rfl)⟩) ⟨fw_blind, fw_recv hK hP (fw_V0 (f := 18) (by decide) (by decide)) rfl rfl, fun U hU9 hW9 => ⟨rfl, fw_pre hK hP hSt hS U hU9 hW9⟩⟩ rfl rfl hl.1 rfl (lv_room (Nat.le_of_ble_eq_true rfl)) dX10_washesAll_184 ⟨Nat.zero_le _, Nat.zero_le _⟩) hS (fun H locs hP hS => ?_)
            obtain ⟨g30, h⟩ := fw_g_e h
            refine fw_iast (n := 16) hx hb hK hP hE hS (fw_V0 (f := 26) (by decide) (by decide)) (fun _ => rfl) (fw_in_e g30) dX10_washesAll_187 (fun H locs hP hS => ?_)
            obtain ⟨μ31, eμ31, h⟩ := fw_l_e h
            rw [← eμ31] at hP
            refine lv_iinc (v := (x4 + (1 : Int32))) (lv' := [(4, .int (x4 + (1 : Int32))), (0, .ref (fw_ad E 0 18)), (1, .int x1), (2, .int x2), (3, .int x3)]) hx hb dX10_washesAll_188 hl (k := 4) rfl rfl (by decide) rfl (fun ls hl => ?_)
            refine lv_goto (tgt := 131) hx hb dX10_washesAll_191 (by decide) ?_
            exact ih131 μ31 x1 x2 x3 (x4 + (1 : Int32)) H locs ls h hP hS (lv_sub hl [1, 2, 3, 4, 0] rfl)
          · rw [if_neg c28] at h
            refine lv_sipush (v := (256 : Int32)) hx hb dX10_washesAll_173 (by decide) ?_
            refine lv_goto (tgt := 187) hx hb dX10_washesAll_176 (by decide) ?_
            obtain ⟨g32, h⟩ := fw_g_e h
            refine fw_iast (n := 16) hx hb hK hP hE hS (fw_V0 (f := 26) (by decide) (by decide)) (fun _ => rfl) (fw_in_e g32) dX10_washesAll_187 (fun H locs hP hS => ?_)
            obtain ⟨μ33, eμ33, h⟩ := fw_l_e h
            rw [← eμ33] at hP
            refine lv_iinc (v := (x4 + (1 : Int32))) (lv' := [(4, .int (x4 + (1 : Int32))), (0, .ref (fw_ad E 0 18)), (1, .int x1), (2, .int x2), (3, .int x3)]) hx hb dX10_washesAll_188 hl (k := 4) rfl rfl (by decide) rfl (fun ls hl => ?_)
            refine lv_goto (tgt := 131) hx hb dX10_washesAll_191 (by decide) ?_
            exact ih131 μ33 x1 x2 x3 (x4 + (1 : Int32)) H locs ls h hP hS (lv_sub hl [1, 2, 3, 4, 0] rfl)
        · rw [if_pos c24] at h
          refine lv_iconst (v := (-1 : Int32)) hx hb dX10_washesAll_158 (by decide) ?_
          refine lv_goto (tgt := 187) hx hb dX10_washesAll_159 (by decide) ?_
          obtain ⟨g25, h⟩ := fw_g_e h
          refine fw_iast (n := 16) hx hb hK hP hE hS (fw_V0 (f := 26) (by decide) (by decide)) (fun _ => rfl) (fw_in_e g25) dX10_washesAll_187 (fun H locs hP hS => ?_)
          obtain ⟨μ26, eμ26, h⟩ := fw_l_e h
          rw [← eμ26] at hP
          refine lv_iinc (v := (x4 + (1 : Int32))) (lv' := [(4, .int (x4 + (1 : Int32))), (0, .ref (fw_ad E 0 18)), (1, .int x1), (2, .int x2), (3, .int x3)]) hx hb dX10_washesAll_188 hl (k := 4) rfl rfl (by decide) rfl (fun ls hl => ?_)
          refine lv_goto (tgt := 131) hx hb dX10_washesAll_191 (by decide) ?_
          exact ih131 μ26 x1 x2 x3 (x4 + (1 : Int32)) H locs ls h hP hS (lv_sub hl [1, 2, 3, 4, 0] rfl)
  have L99 : ∀ (n : Nat) (μ : fw_M) (x1 : Int32) (x2 : Int32) (x3 : Int32) (x4 : Int32) (H : Heap) (locs : List Loc) (ls : Array Slot), f_X10_washesAll_L99 n μ x1 x2 x3 x4 = some (μ', r) → fw_P E o d μ H → va_S (fw_A E) s.heap H locs → lv_has ls 6 [(0, .ref (fw_ad E 0 18)), (1, .int x1), (2, .int x2), (3, .int x3), (4, .int x4)] → W p l e (headSpec (fw_ws yX10_washesAll cX10_washesAll 6 (some .int)) ({ frames := 5, cells := 0, slots := 0, locals := 113 } : Room)).room s m args below meth c H locs 0 0 (MQ below (fw_Q E o d (some (.int r)) μ') args s 0 0 (fw_A E)) (F0 m 99 ls []) := by
    intro n99
    induction n99 with
    | zero => intro μ x1 x2 x3 x4 H locs ls h; rw [f_X10_washesAll_L99] at h; cases h
    | succ n99 ih99 =>
      intro μ x1 x2 x3 x4 H locs ls h hP hS hl
      rw [f_X10_washesAll_L99] at h
      refine lv_iload hx hb dX10_washesAll_99 (lv_at hl 4 rfl) ?_
      refine lv_iconst (v := (4 : Int32)) hx hb dX10_washesAll_101 (by decide) ?_
      refine lv_icmp_ge (tgt := 128) hx hb dX10_washesAll_102 (by decide) (fun c18 => ?_) (fun c18 => ?_)
      · rw [if_pos c18] at h
        refine lv_iconst (v := (0 : Int32)) hx hb dX10_washesAll_128 (by decide) ?_
        refine lv_istore (lv' := [(4, .int (0 : Int32)), (0, .ref (fw_ad E 0 18)), (1, .int x1), (2, .int x2), (3, .int x3)]) hx hb dX10_washesAll_129 hl (by decide) rfl (fun ls hl => ?_)
        exact L131 1000 μ x1 x2 x3 (0 : Int32) H locs ls h hP hS (lv_sub hl [1, 2, 3, 4, 0] rfl)
      · rw [if_neg c18] at h
        refine lv_aload_n hx hb dX10_washesAll_105 rfl (lv_at hl 0 rfl) ?_
        refine va_get (D := fw_D E) (ci := 8) (v := .ref (fw_ad E 0 19)) (C := RX10) (T := TX10) (N := 20) hx hb hU inU10 hown hK (fw_at hP (fw_V0 (f := 18) (by decide) (by decide))) 0 rfl rfl 1 (by decide) (hU (Cond.fieldLink RX10 7 "LaundryServiceModel" "s" "[I") m_1118) (fun _ h9 => h9) rfl dX10_washesAll_106 ?_
        refine lv_bipush (v := (100 : Int32)) hx hb dX10_washesAll_109 (by decide) ?_
        refine lv_iload hx hb dX10_washesAll_111 (lv_at hl 4 rfl) ?_
        refine lv_iadd hx hb dX10_washesAll_113 ?_
        refine lv_aload_n hx hb dX10_washesAll_114 rfl (lv_at hl 0 rfl) ?_
        refine va_get (D := fw_D E) (ci := 8) (v := .ref (fw_ad E 0 26)) (C := RX10) (T := TX10) (N := 20) hx hb hU inU10 hown hK (fw_at hP (fw_V0 (f := 18) (by decide) (by decide))) 0 rfl rfl 10 (by decide) (hU (Cond.fieldLink RX10 31 "LaundryServiceModel" "after" "[I") m_1127) (fun _ h9 => h9) rfl dX10_washesAll_115 ?_
        refine lv_iload hx hb dX10_washesAll_118 (lv_at hl 4 rfl) ?_
        obtain ⟨g19, h⟩ := fw_g_e h
        refine va_iald (D := fw_D E) hx hb hK (fw_at hP (fw_V0 (f := 26) (by decide) (by decide))) 0 0 rfl rfl (fw_in_e g19) dX10_washesAll_120 ?_
        obtain ⟨g20, h⟩ := fw_g_e h
        refine fw_iast (n := 104) hx hb hK hP hE hS (fw_V0 (f := 19) (by decide) (by decide)) (fun _ => rfl) (fw_in_e g20) dX10_washesAll_121 (fun H locs hP hS => ?_)
        obtain ⟨μ21, eμ21, h⟩ := fw_l_e h
        rw [← eμ21] at hP
        refine lv_iinc (v := (x4 + (1 : Int32))) (lv' := [(4, .int (x4 + (1 : Int32))), (0, .ref (fw_ad E 0 18)), (1, .int x1), (2, .int x2), (3, .int x3)]) hx hb dX10_washesAll_122 hl (k := 4) rfl rfl (by decide) rfl (fun ls hl => ?_)
        refine lv_goto (tgt := 99) hx hb dX10_washesAll_125 (by decide) ?_
        exact ih99 μ21 x1 x2 x3 (x4 + (1 : Int32)) H locs ls h hP hS (lv_sub hl [1, 2, 3, 4, 0] rfl)
  have L33 : ∀ (n : Nat) (μ : fw_M) (x1 : Int32) (x2 : Int32) (x3 : Int32) (x4 : Int32) (H : Heap) (locs : List Loc) (ls : Array Slot), f_X10_washesAll_L33 n μ x1 x2 x3 x4 = some (μ', r) → fw_P E o d μ H → va_S (fw_A E) s.heap H locs → lv_has ls 6 [(0, .ref (fw_ad E 0 18)), (1, .int x1), (2, .int x2), (3, .int x3), (4, .int x4)] → W p l e (headSpec (fw_ws yX10_washesAll cX10_washesAll 6 (some .int)) ({ frames := 5, cells := 0, slots := 0, locals := 113 } : Room)).room s m args below meth c H locs 0 0 (MQ below (fw_Q E o d (some (.int r)) μ') args s 0 0 (fw_A E)) (F0 m 33 ls []) := by
    intro n33
    induction n33 with
    | zero => intro μ x1 x2 x3 x4 H locs ls h; rw [f_X10_washesAll_L33] at h; cases h
    | succ n33 ih33 =>
      intro μ x1 x2 x3 x4 H locs ls h hP hS hl
      rw [f_X10_washesAll_L33] at h
      refine lv_iload hx hb dX10_washesAll_33 (lv_at hl 4 rfl) ?_
      refine lv_iconst (v := (4 : Int32)) hx hb dX10_washesAll_35 (by decide) ?_
      refine lv_icmp_ge (tgt := 96) hx hb dX10_washesAll_36 (by decide) (fun c6 => ?_) (fun c6 => ?_)
      · rw [if_pos c6] at h
        refine lv_iconst (v := (0 : Int32)) hx hb dX10_washesAll_96 (by decide) ?_
        refine lv_istore (lv' := [(4, .int (0 : Int32)), (0, .ref (fw_ad E 0 18)), (1, .int x1), (2, .int x2), (3, .int x3)]) hx hb dX10_washesAll_97 hl (by decide) rfl (fun ls hl => ?_)
        exact L99 1000 μ x1 x2 x3 (0 : Int32) H locs ls h hP hS (lv_sub hl [1, 2, 3, 4, 0] rfl)
      · rw [if_neg c6] at h
        refine lv_aload_n hx hb dX10_washesAll_39 rfl (lv_at hl 0 rfl) ?_
        refine lv_iload hx hb dX10_washesAll_40 (lv_at hl 4 rfl) ?_
        obtain ⟨r7, hc7, h⟩ := fw_b1_e h
        refine fw_ret (va_runV (As := [.int x4]) (rest := []) ⟨hx, hb, hml, hown, hU⟩ (k_X10_sumOf l hE x4 hc7) (cwV 1 hU (fw_gV m_1272 m_1274 ms_26 m_9 m_1275) rfl rfl rfl (by decide +kernel) ⟨(Nat.le_of_ble_eq_true rfl), (Nat.le_of_ble_eq_true rfl)⟩) ⟨fw_blind, fw_recv hK hP (fw_V0 (f := 18) (by decide) (by decide)) rfl rfl, fun U hU9 hW9 => ⟨rfl, fw_pre hK hP hSt hS U hU9 hW9⟩⟩ rfl rfl hl.1 rfl (lv_room (Nat.le_of_ble_eq_true rfl)) dX10_washesAll_42 ⟨Nat.zero_le _, Nat.zero_le _⟩) hS (fun H locs hP hS => ?_)
        refine lv_aload_n hx hb dX10_washesAll_45 rfl (lv_at hl 0 rfl) ?_
        refine lv_iload_n hx hb dX10_washesAll_46 rfl (lv_at hl 1 rfl) ?_
        refine lv_iload hx hb dX10_washesAll_47 (lv_at hl 4 rfl) ?_
        obtain ⟨r8, hc8, h⟩ := fw_b1_e h
        refine fw_ret (va_runV (As := [.int x1, .int x4]) (rest := [.float r7]) ⟨hx, hb, hml, hown, hU⟩ (k_X10_cost l hE x1 x4 hc8) (cwV 2 hU (fw_gV m_1279 m_1281 ms_27 m_9 m_1282) rfl rfl rfl (by decide +kernel) ⟨(Nat.le_of_ble_eq_true rfl), (Nat.le_of_ble_eq_true rfl)⟩) ⟨fw_blind, fw_recv hK hP (fw_V0 (f := 18) (by decide) (by decide)) rfl rfl, fun U hU9 hW9 => ⟨rfl, fw_pre hK hP hSt hS U hU9 hW9⟩⟩ rfl rfl hl.1 rfl (lv_room (Nat.le_of_ble_eq_true rfl)) dX10_washesAll_49 ⟨Nat.zero_le _, Nat.zero_le _⟩) hS (fun H locs hP hS => ?_)
        obtain ⟨g9, h⟩ := fw_g_e h
        refine lv_fadd hx hb dX10_washesAll_52 (fw_f32_e g9) ?_
        refine lv_fstore (lv' := [(5, .float (FP.fadd r7 r8)), (0, .ref (fw_ad E 0 18)), (1, .int x1), (2, .int x2), (3, .int x3), (4, .int x4)]) hx hb dX10_washesAll_53 hl (by decide) rfl (fun ls hl => ?_)
        refine lv_aload_n hx hb dX10_washesAll_55 rfl (lv_at hl 1 rfl) ?_
        refine va_get (D := fw_D E) (ci := 8) (v := .ref (fw_ad E 0 26)) (C := RX10) (T := TX10) (N := 20) hx hb hU inU10 hown hK (fw_at hP (fw_V0 (f := 18) (by decide) (by decide))) 0 rfl rfl 10 (by decide) (hU (Cond.fieldLink RX10 31 "LaundryServiceModel" "after" "[I") m_1127) (fun _ h9 => h9) rfl dX10_washesAll_56 ?_
        refine lv_iload hx hb dX10_washesAll_59 (lv_at hl 5 rfl) ?_
        refine lv_aload_n hx hb dX10_washesAll_61 rfl (lv_at hl 1 rfl) ?_
        refine lv_iload_n hx hb dX10_washesAll_62 rfl (lv_at hl 2 rfl) ?_
        refine lv_iload hx hb dX10_washesAll_63 (lv_at hl 5 rfl) ?_
        obtain ⟨r10, hc10, h⟩ := fw_b1_e h
        refine fw_ret (va_runV (As := [.int x1, .int x4]) (rest := [.int x4, .ref (fw_ad E 0 26)]) ⟨hx, hb, hml, hown, hU⟩ (k_X10_heldOf l hE x1 x4 hc10) (cwV 2 hU (fw_gV m_1283 m_1285 ms_28 m_9 m_1286) rfl rfl rfl (by decide +kernel) ⟨(Nat.le_of_ble_eq_true rfl), (Nat.le_of_ble_eq_true rfl)⟩) ⟨fw_blind, fw_recv hK hP (fw_V0 (f := 18) (by decide) (by decide)) rfl rfl, fun U hU9 hW9 => ⟨rfl, fw_pre hK hP hSt hS U hU9 hW9⟩⟩ rfl rfl hl.1 rfl (lv_room (Nat.le_of_ble_eq_true rfl)) dX10_washesAll_65 ⟨Nat.zero_le _, Nat.zero_le _⟩) hS (fun H locs hP hS => ?_)
        refine lv_if_le (tgt := 79) hx hb dX10_washesAll_68 (by decide) (fun c11 => ?_) (fun c11 => ?_)
        · rw [if_pos c11] at h
          refine lv_aload_n hx hb dX10_washesAll_79 rfl (lv_at hl 1 rfl) ?_
          refine va_get (D := fw_D E) (ci := 8) (v := .ref (fw_ad E 0 19)) (C := RX10) (T := TX10) (N := 20) hx hb hU inU10 hown hK (fw_at hP (fw_V0 (f := 18) (by decide) (by decide))) 0 rfl rfl 1 (by decide) (hU (Cond.fieldLink RX10 7 "LaundryServiceModel" "s" "[I") m_1118) (fun _ h9 => h9) rfl dX10_washesAll_80 ?_
          refine lv_bipush (v := (100 : Int32)) hx hb dX10_washesAll_83 (by decide) ?_
          refine lv_iload hx hb dX10_washesAll_85 (lv_at hl 5 rfl) ?_
          refine lv_iadd hx hb dX10_washesAll_87 ?_
          obtain ⟨g12, h⟩ := fw_g_e h
          refine va_iald (D := fw_D E) hx hb hK (fw_at hP (fw_V0 (f := 19) (by decide) (by decide))) 0 0 rfl rfl (fw_in_e g12) dX10_washesAll_88 ?_
          obtain ⟨g13, h⟩ := fw_g_e h
          refine fw_iast (n := 16) hx hb hK hP hE hS (fw_V0 (f := 26) (by decide) (by decide)) (fun _ => rfl) (fw_in_e g13) dX10_washesAll_89 (fun H locs hP hS => ?_)
          obtain ⟨μ14, eμ14, h⟩ := fw_l_e h
          rw [← eμ14] at hP
          refine lv_iinc (v := (x4 + (1 : Int32))) (lv' := [(4, .int (x4 + (1 : Int32))), (5, .float (FP.fadd r7 r8)), (0, .ref (fw_ad E 0 18)), (1, .int x1), (2, .int x2), (3, .int x3)]) hx hb dX10_washesAll_90 hl (k := 5) rfl rfl (by decide) rfl (fun ls hl => ?_)
          refine lv_goto (tgt := 33) hx hb dX10_washesAll_93 (by decide) ?_
          exact ih33 μ14 x1 x2 x3 (x4 + (1 : Int32)) H locs ls h hP hS (lv_sub hl [2, 3, 4, 5, 0] rfl)
        · rw [if_neg c11] at h
          refine lv_fload hx hb dX10_washesAll_71 (lv_at hl 0 rfl) ?_
          obtain ⟨r15, hc15, h⟩ := fw_b1_e h
          refine fw_ret (va_runS (As := [.float (FP.fadd r7 r8)]) (rest := [.int x4, .ref (fw_ad E 0 26)]) ⟨hx, hb, hml, hown, hU⟩ (k_Jxf58ca_floatToIntBits_5c35a l hE (FP.fadd r7 r8) hc15) (va_cwS 1 hU (fw_gS m_1293 m_1294 m_24 m_1295) rfl rfl rfl (by decide +kernel) ⟨(Nat.le_of_ble_eq_true rfl), (Nat.le_of_ble_eq_true rfl)⟩) ⟨fw_blind, fun U hU9 hW9 => ⟨rfl, fw_pre hK hP hSt hS U hU9 hW9⟩⟩ rfl rfl hl.1 rfl (lv_room (Nat.le_of_ble_eq_true rfl)) dX10_washesAll_73 ⟨Nat.zero_le _, Nat.zero_le _⟩) hS (fun H locs hP hS => ?_)
          refine lv_goto (tgt := 89) hx hb dX10_washesAll_76 (by decide) ?_
          obtain ⟨g16, h⟩ := fw_g_e h
          refine fw_iast (n := 16) hx hb hK hP hE hS (fw_V0 (f := 26) (by decide) (by decide)) (fun _ => rfl) (fw_in_e g16) dX10_washesAll_89 (fun H locs hP hS => ?_)
          obtain ⟨μ17, eμ17, h⟩ := fw_l_e h
          rw [← eμ17] at hP
          refine lv_iinc (v := (x4 + (1 : Int32))) (lv' := [(4, .int (x4 + (1 : Int32))), (5, .float (FP.fadd r7 r8)), (0, .ref (fw_ad E 0 18)), (1, .int x1), (2, .int x2), (3, .int x3)]) hx hb dX10_washesAll_90 hl (k := 5) rfl rfl (by decide) rfl (fun ls hl => ?_)
          refine lv_goto (tgt := 33) hx hb dX10_washesAll_93 (by decide) ?_
          exact ih33 μ17 x1 x2 x3 (x4 + (1 : Int32)) H locs ls h hP hS (lv_sub hl [2, 3, 4, 5, 0] rfl)
  have EN : ∀ (H : Heap) (locs : List Loc) (ls : Array Slot), fw_P E o d μ H → va_S (fw_A E) s.heap H locs → lv_has ls 6 [(0, .ref (fw_ad E 0 18)), (1, .int x1)] → W p l e (headSpec (fw_ws yX10_washesAll cX10_washesAll 6 (some .int)) ({ frames := 5, cells := 0, slots := 0, locals := 113 } : Room)).room s m args below meth c H locs 0 0 (MQ below (fw_Q E o d (some (.int r)) μ') args s 0 0 (fw_A E)) (F0 m 0 ls []) := by
    intro H locs ls hP hS hl
    unfold f_X10_washesAll at h
    refine lv_iload_n hx hb dX10_washesAll_0 rfl (lv_at hl 1 rfl) ?_
    obtain ⟨r1, hc1, h⟩ := fw_b1_e h
    refine fw_ret (va_runS (As := [.int x1]) (rest := []) ⟨hx, hb, hml, hown, hU⟩ (k_X10_isMachine l hE x1 hc1) (va_cwS 1 hU (fw_gS m_1232 m_1233 m_9 m_1234) rfl rfl rfl (by decide +kernel) ⟨(Nat.le_of_ble_eq_true rfl), (Nat.le_of_ble_eq_true rfl)⟩) ⟨fw_blind, fun U hU9 hW9 => ⟨rfl, fw_pre hK hP hSt hS U hU9 hW9⟩⟩ rfl rfl hl.1 rfl (lv_room (Nat.le_of_ble_eq_true rfl)) dX10_washesAll_1 ⟨Nat.zero_le _, Nat.zero_le _⟩) hS (fun H locs hP hS => ?_)
    refine lv_if_ne (tgt := 9) hx hb dX10_washesAll_4 (by decide) (fun c2 => ?_) (fun c2 => ?_)
    · rw [if_neg c2] at h
      refine lv_aload_n hx hb dX10_washesAll_9 rfl (lv_at hl 0 rfl) ?_
      refine lv_iload_n hx hb dX10_washesAll_10 rfl (lv_at hl 1 rfl) ?_
      obtain ⟨r3, hc3, h⟩ := fw_b1_e h
      refine fw_ret (va_runV (As := [.int x1]) (rest := []) ⟨hx, hb, hml, hown, hU⟩ (k_X10_held l hE x1 hc3) (cwV 1 hU (fw_gV m_1239 m_1241 ms_21 m_9 m_1242) rfl rfl rfl (by decide +kernel) ⟨(Nat.le_of_ble_eq_true rfl), (Nat.le_of_ble_eq_true rfl)⟩) ⟨fw_blind, fw_recv hK hP (fw_V0 (f := 18) (by decide) (by decide)) rfl rfl, fun U hU9 hW9 => ⟨rfl, fw_pre hK hP hSt hS U hU9 hW9⟩⟩ rfl rfl hl.1 rfl (lv_room (Nat.le_of_ble_eq_true rfl)) dX10_washesAll_11 ⟨Nat.zero_le _, Nat.zero_le _⟩) hS (fun H locs hP hS => ?_)
      refine lv_if_ne (tgt := 19) hx hb dX10_washesAll_14 (by decide) (fun c4 => ?_) (fun c4 => ?_)
      · rw [if_neg c4] at h
        refine lv_aload_n hx hb dX10_washesAll_19 rfl (lv_at hl 0 rfl) ?_
        refine va_get (D := fw_D E) (ci := 8) (v := .ref (fw_ad E 0 19)) (C := RX10) (T := TX10) (N := 20) hx hb hU inU10 hown hK (fw_at hP (fw_V0 (f := 18) (by decide) (by decide))) 0 rfl rfl 1 (by decide) (hU (Cond.fieldLink RX10 7 "LaundryServiceModel" "s" "[I") m_1118) (fun _ h9 => h9) rfl dX10_washesAll_20 ?_
        refine lv_iconst (v := (2 : Int32)) hx hb dX10_washesAll_23 (by decide) ?_
        refine lv_iload_n hx hb dX10_washesAll_24 rfl (lv_at hl 1 rfl) ?_
        refine lv_iadd hx hb dX10_washesAll_25 ?_
        obtain ⟨g5, h⟩ := fw_g_e h
        refine va_iald (D := fw_D E) hx hb hK (fw_at hP (fw_V0 (f := 19) (by decide) (by decide))) 0 0 rfl rfl (fw_in_e g5) dX10_washesAll_26 ?_
        refine lv_istore_n (lv' := [(2, .int (μ 0 19 ((2 : Int32) + x1).toNatClampNeg)), (0, .ref (fw_ad E 0 18)), (1, .int x1)]) hx hb dX10_washesAll_27 rfl hl (by decide) rfl (fun ls hl => ?_)
        refine lv_iconst (v := (0 : Int32)) hx hb dX10_washesAll_28 (by decide) ?_
        refine lv_istore_n (lv' := [(3, .int (0 : Int32)), (2, .int (μ 0 19 ((2 : Int32) + x1).toNatClampNeg)), (0, .ref (fw_ad E 0 18)), (1, .int x1)]) hx hb dX10_washesAll_29 rfl hl (by decide) rfl (fun ls hl => ?_)
        refine lv_iconst (v := (0 : Int32)) hx hb dX10_washesAll_30 (by decide) ?_
        refine lv_istore (lv' := [(4, .int (0 : Int32)), (3, .int (0 : Int32)), (2, .int (μ 0 19 ((2 : Int32) + x1).toNatClampNeg)), (0, .ref (fw_ad E 0 18)), (1, .int x1)]) hx hb dX10_washesAll_31 hl (by decide) rfl (fun ls hl => ?_)
        exact L33 1000 μ x1 (μ 0 19 ((2 : Int32) + x1).toNatClampNeg) (0 : Int32) (0 : Int32) H locs ls h hP hS (lv_sub hl [3, 4, 2, 1, 0] rfl)
      · rw [if_pos c4] at h
        refine lv_iconst (v := (2 : Int32)) hx hb dX10_washesAll_17 (by decide) ?_
        exact W.iret (v := (2 : Int32)) hx hb hr (fw_ew (mk := Value.int) h hP hS) hS.2.2 dX10_washesAll_18
    · rw [if_pos c2] at h
      refine lv_iconst (v := (1 : Int32)) hx hb dX10_washesAll_7 (by decide) ?_
      exact W.iret (v := (1 : Int32)) hx hb hr (fw_ew (mk := Value.int) h hP hS) hS.2.2 dX10_washesAll_8
  subst ha
  have hl := lv_entry ([.ref (fw_ad E 0 18), .int x1]) (n := 6) (Nat.le_of_ble_eq_true rfl)
  rw [lg_entry_eq]
  generalize (lg_sl ([.ref (fw_ad E 0 18), .int x1]) ++ List.replicate (6 - (lg_sl ([.ref (fw_ad E 0 18), .int x1])).length) Slot.unset).toArray = ls at hl ⊢
  exact EN s.heap [] ls hP va_S.rf hl
set_option maxHeartbeats 4000000 in
set_option maxRecDepth 100000 in
theorem k_X10_bring (l : Launch) {E : fw_E} {o : Int64} {d : UInt64} (hE : fw_ok E) {μ μ' : fw_M} (x1 : Int32) (x2 : Int32) (x3 : Int32) (x4 : Int32) {r : Int32} (h : f_X10_bring μ x1 x2 x3 x4 = some (μ', r)) : Met l yX10_bring (fw_ws yX10_bring cX10_bring 5 (some .int)) ({ frames := 3, cells := 0, slots := 0, locals := 67 } : Room) (va_Pc [.ref (fw_ad E 0 18), .int x1, .int x2, .int x3, .int x4] (fw_Pre E o d μ)) (fw_Q E o d (some (.int r)) μ') 0 0 (fw_A E) := by
  refine Met.ofW (cc := cX10_bring) (maxL := 5) (ret := (some .int)) (by decide) rfl ?_
  intro p e s m args below meth c s₁ B hml hv
  obtain ⟨ha, hK, hP, hSt⟩ := hv
  have hx := B.exec
  have hb := B.bytes
  have hr := B.returns
  have hts := atoms_spec (ws := fw_ws yX10_bring cX10_bring 5 (some .int)) B.pre
  have hU : ∀ w ∈ fw_U, w.before args s = true := fun w hw => hts w (List.mem_cons_of_mem _ hw)
  have hown : s.vm.findClass RX10 = some m.cls := findClass_of_methodNamed B.named
  have hlocks := B.notSynchronized
  have EN : ∀ (H : Heap) (locs : List Loc) (ls : Array Slot), fw_P E o d μ H → va_S (fw_A E) s.heap H locs → lv_has ls 5 [(0, .ref (fw_ad E 0 18)), (1, .int x1), (2, .int x2), (3, .int x3), (4, .int x4)] → W p l e (headSpec (fw_ws yX10_bring cX10_bring 5 (some .int)) ({ frames := 3, cells := 0, slots := 0, locals := 67 } : Room)).room s m args below meth c H locs 0 0 (MQ below (fw_Q E o d (some (.int r)) μ') args s 0 0 (fw_A E)) (F0 m 0 ls []) := by
    intro H locs ls hP hS hl
    unfold f_X10_bring at h
    refine lv_aload_n hx hb dX10_bring_0 rfl (lv_at hl 0 rfl) ?_
    obtain ⟨μ1, r1, hc1, h⟩ := fw_b2_e h
    refine fw_retv (va_runV (As := []) (rest := []) ⟨hx, hb, hml, hown, hU⟩ (k_X10_remembers l hE hc1) (cwV 0 hU (fw_gV m_1186 m_1188 ms_11 m_9 m_1189) rfl rfl rfl (by decide +kernel) ⟨(Nat.le_of_ble_eq_true rfl), (Nat.le_of_ble_eq_true rfl)⟩) ⟨fw_blind, fw_recv hK hP (fw_V0 (f := 18) (by decide) (by decide)) rfl rfl, fun U hU9 hW9 => ⟨rfl, fw_pre hK hP hSt hS U hU9 hW9⟩⟩ rfl rfl hl.1 rfl (lv_room (Nat.le_of_ble_eq_true rfl)) dX10_bring_1 ⟨Nat.zero_le _, Nat.zero_le _⟩) hS (fun H locs hP hS => ?_)
    refine lv_aload_n hx hb dX10_bring_4 rfl (lv_at hl 0 rfl) ?_
    refine lv_aload_n hx hb dX10_bring_5 rfl (lv_at hl 0 rfl) ?_
    refine lv_iload_n hx hb dX10_bring_6 rfl (lv_at hl 1 rfl) ?_
    refine lv_iload_n hx hb dX10_bring_7 rfl (lv_at hl 2 rfl) ?_
    refine lv_if_eq (tgt := 15) hx hb dX10_bring_8 (by decide) (fun c2 => ?_) (fun c2 => ?_)
    · rw [if_pos c2] at h
      refine lv_iconst (v := (0 : Int32)) hx hb dX10_bring_15 (by decide) ?_
      refine lv_iload_n hx hb dX10_bring_16 rfl (lv_at hl 3 rfl) ?_
      refine lv_iload hx hb dX10_bring_17 (lv_at hl 4 rfl) ?_
      obtain ⟨μ3, r3, hc3, h⟩ := fw_b2_e h
      refine fw_ret (va_runV (As := [.int x1, .int (0 : Int32), .int x3, .int x4]) (rest := [.ref (fw_ad E 0 18)]) ⟨hx, hb, hml, hown, hU⟩ (k_X10_brings l hE x1 (0 : Int32) x3 x4 hc3) (cwV 4 hU (fw_gV m_1190 m_1192 ms_12 m_9 m_1193) rfl rfl rfl (by decide +kernel) ⟨(Nat.le_of_ble_eq_true rfl), (Nat.le_of_ble_eq_true rfl)⟩) ⟨fw_blind, fw_recv hK hP (fw_V0 (f := 18) (by decide) (by decide)) rfl rfl, fun U hU9 hW9 => ⟨rfl, fw_pre hK hP hSt hS U hU9 hW9⟩⟩ rfl rfl hl.1 rfl (lv_room (Nat.le_of_ble_eq_true rfl)) dX10_bring_19 ⟨Nat.zero_le _, Nat.zero_le _⟩) hS (fun H locs hP hS => ?_)
      obtain ⟨μ4, r4, hc4, h⟩ := fw_b2_e h
      refine fw_ret (va_runV (As := [.int r3]) (rest := []) ⟨hx, hb, hml, hown, hU⟩ (k_X10_ends l hE r3 hc4) (cwV 1 hU (fw_gV m_1208 m_1210 ms_15 m_9 m_1211) rfl rfl rfl (by decide +kernel) ⟨(Nat.le_of_ble_eq_true rfl), (Nat.le_of_ble_eq_true rfl)⟩) ⟨fw_blind, fw_recv hK hP (fw_V0 (f := 18) (by decide) (by decide)) rfl rfl, fun U hU9 hW9 => ⟨rfl, fw_pre hK hP hSt hS U hU9 hW9⟩⟩ rfl rfl hl.1 rfl (lv_room (Nat.le_of_ble_eq_true rfl)) dX10_bring_22 ⟨Nat.zero_le _, Nat.zero_le _⟩) hS (fun H locs hP hS => ?_)
      exact W.iret (v := r4) hx hb hr (fw_ew (mk := Value.int) h hP hS) hS.2.2 dX10_bring_25
    · rw [if_neg c2] at h
      refine lv_iconst (v := (1 : Int32)) hx hb dX10_bring_11 (by decide) ?_
      refine lv_goto (tgt := 16) hx hb dX10_bring_12 (by decide) ?_
      refine lv_iload_n hx hb dX10_bring_16 rfl (lv_at hl 3 rfl) ?_
      refine lv_iload hx hb dX10_bring_17 (lv_at hl 4 rfl) ?_
      obtain ⟨μ5, r5, hc5, h⟩ := fw_b2_e h
      refine fw_ret (va_runV (As := [.int x1, .int (1 : Int32), .int x3, .int x4]) (rest := [.ref (fw_ad E 0 18)]) ⟨hx, hb, hml, hown, hU⟩ (k_X10_brings l hE x1 (1 : Int32) x3 x4 hc5) (cwV 4 hU (fw_gV m_1190 m_1192 ms_12 m_9 m_1193) rfl rfl rfl (by decide +kernel) ⟨(Nat.le_of_ble_eq_true rfl), (Nat.le_of_ble_eq_true rfl)⟩) ⟨fw_blind, fw_recv hK hP (fw_V0 (f := 18) (by decide) (by decide)) rfl rfl, fun U hU9 hW9 => ⟨rfl, fw_pre hK hP hSt hS U hU9 hW9⟩⟩ rfl rfl hl.1 rfl (lv_room (Nat.le_of_ble_eq_true rfl)) dX10_bring_19 ⟨Nat.zero_le _, Nat.zero_le _⟩) hS (fun H locs hP hS => ?_)
      obtain ⟨μ6, r6, hc6, h⟩ := fw_b2_e h
      refine fw_ret (va_runV (As := [.int r5]) (rest := []) ⟨hx, hb, hml, hown, hU⟩ (k_X10_ends l hE r5 hc6) (cwV 1 hU (fw_gV m_1208 m_1210 ms_15 m_9 m_1211) rfl rfl rfl (by decide +kernel) ⟨(Nat.le_of_ble_eq_true rfl), (Nat.le_of_ble_eq_true rfl)⟩) ⟨fw_blind, fw_recv hK hP (fw_V0 (f := 18) (by decide) (by decide)) rfl rfl, fun U hU9 hW9 => ⟨rfl, fw_pre hK hP hSt hS U hU9 hW9⟩⟩ rfl rfl hl.1 rfl (lv_room (Nat.le_of_ble_eq_true rfl)) dX10_bring_22 ⟨Nat.zero_le _, Nat.zero_le _⟩) hS (fun H locs hP hS => ?_)
      exact W.iret (v := r6) hx hb hr (fw_ew (mk := Value.int) h hP hS) hS.2.2 dX10_bring_25
  subst ha
  have hl := lv_entry ([.ref (fw_ad E 0 18), .int x1, .int x2, .int x3, .int x4]) (n := 5) (Nat.le_of_ble_eq_true rfl)
  rw [lg_entry_eq]
  generalize (lg_sl ([.ref (fw_ad E 0 18), .int x1, .int x2, .int x3, .int x4]) ++ List.replicate (5 - (lg_sl ([.ref (fw_ad E 0 18), .int x1, .int x2, .int x3, .int x4])).length) Slot.unset).toArray = ls at hl ⊢
  exact EN s.heap [] ls hP va_S.rf hl
set_option maxHeartbeats 4000000 in
set_option maxRecDepth 100000 in
theorem k_X10_load (l : Launch) {E : fw_E} {o : Int64} {d : UInt64} (hE : fw_ok E) {μ μ' : fw_M} (x1 : Int32) (x2 : Int32) {r : Int32} (h : f_X10_load μ x1 x2 = some (μ', r)) : Met l yX10_load (fw_ws yX10_load cX10_load 3 (some .int)) ({ frames := 4, cells := 0, slots := 0, locals := 89 } : Room) (va_Pc [.ref (fw_ad E 0 18), .int x1, .int x2] (fw_Pre E o d μ)) (fw_Q E o d (some (.int r)) μ') 0 0 (fw_A E) := by
  refine Met.ofW (cc := cX10_load) (maxL := 3) (ret := (some .int)) (by decide) rfl ?_
  intro p e s m args below meth c s₁ B hml hv
  obtain ⟨ha, hK, hP, hSt⟩ := hv
  have hx := B.exec
  have hb := B.bytes
  have hr := B.returns
  have hts := atoms_spec (ws := fw_ws yX10_load cX10_load 3 (some .int)) B.pre
  have hU : ∀ w ∈ fw_U, w.before args s = true := fun w hw => hts w (List.mem_cons_of_mem _ hw)
  have hown : s.vm.findClass RX10 = some m.cls := findClass_of_methodNamed B.named
  have hlocks := B.notSynchronized
  have EN : ∀ (H : Heap) (locs : List Loc) (ls : Array Slot), fw_P E o d μ H → va_S (fw_A E) s.heap H locs → lv_has ls 3 [(0, .ref (fw_ad E 0 18)), (1, .int x1), (2, .int x2)] → W p l e (headSpec (fw_ws yX10_load cX10_load 3 (some .int)) ({ frames := 4, cells := 0, slots := 0, locals := 89 } : Room)).room s m args below meth c H locs 0 0 (MQ below (fw_Q E o d (some (.int r)) μ') args s 0 0 (fw_A E)) (F0 m 0 ls []) := by
    intro H locs ls hP hS hl
    unfold f_X10_load at h
    refine lv_aload_n hx hb dX10_load_0 rfl (lv_at hl 0 rfl) ?_
    obtain ⟨μ1, r1, hc1, h⟩ := fw_b2_e h
    refine fw_retv (va_runV (As := []) (rest := []) ⟨hx, hb, hml, hown, hU⟩ (k_X10_remembers l hE hc1) (cwV 0 hU (fw_gV m_1186 m_1188 ms_11 m_9 m_1189) rfl rfl rfl (by decide +kernel) ⟨(Nat.le_of_ble_eq_true rfl), (Nat.le_of_ble_eq_true rfl)⟩) ⟨fw_blind, fw_recv hK hP (fw_V0 (f := 18) (by decide) (by decide)) rfl rfl, fun U hU9 hW9 => ⟨rfl, fw_pre hK hP hSt hS U hU9 hW9⟩⟩ rfl rfl hl.1 rfl (lv_room (Nat.le_of_ble_eq_true rfl)) dX10_load_1 ⟨Nat.zero_le _, Nat.zero_le _⟩) hS (fun H locs hP hS => ?_)
    refine lv_aload_n hx hb dX10_load_4 rfl (lv_at hl 0 rfl) ?_
    refine lv_aload_n hx hb dX10_load_5 rfl (lv_at hl 0 rfl) ?_
    refine lv_iload_n hx hb dX10_load_6 rfl (lv_at hl 1 rfl) ?_
    refine lv_iload_n hx hb dX10_load_7 rfl (lv_at hl 2 rfl) ?_
    obtain ⟨μ2, r2, hc2, h⟩ := fw_b2_e h
    refine fw_ret (va_runV (As := [.int x1, .int x2]) (rest := [.ref (fw_ad E 0 18)]) ⟨hx, hb, hml, hown, hU⟩ (k_X10_loads l hE x1 x2 hc2) (cwV 2 hU (fw_gV m_1224 m_1226 ms_18 m_9 m_1227) rfl rfl rfl (by decide +kernel) ⟨(Nat.le_of_ble_eq_true rfl), (Nat.le_of_ble_eq_true rfl)⟩) ⟨fw_blind, fw_recv hK hP (fw_V0 (f := 18) (by decide) (by decide)) rfl rfl, fun U hU9 hW9 => ⟨rfl, fw_pre hK hP hSt hS U hU9 hW9⟩⟩ rfl rfl hl.1 rfl (lv_room (Nat.le_of_ble_eq_true rfl)) dX10_load_8 ⟨Nat.zero_le _, Nat.zero_le _⟩) hS (fun H locs hP hS => ?_)
    obtain ⟨μ3, r3, hc3, h⟩ := fw_b2_e h
    refine fw_ret (va_runV (As := [.int r2]) (rest := []) ⟨hx, hb, hml, hown, hU⟩ (k_X10_ends l hE r2 hc3) (cwV 1 hU (fw_gV m_1208 m_1210 ms_15 m_9 m_1211) rfl rfl rfl (by decide +kernel) ⟨(Nat.le_of_ble_eq_true rfl), (Nat.le_of_ble_eq_true rfl)⟩) ⟨fw_blind, fw_recv hK hP (fw_V0 (f := 18) (by decide) (by decide)) rfl rfl, fun U hU9 hW9 => ⟨rfl, fw_pre hK hP hSt hS U hU9 hW9⟩⟩ rfl rfl hl.1 rfl (lv_room (Nat.le_of_ble_eq_true rfl)) dX10_load_11 ⟨Nat.zero_le _, Nat.zero_le _⟩) hS (fun H locs hP hS => ?_)
    exact W.iret (v := r3) hx hb hr (fw_ew (mk := Value.int) h hP hS) hS.2.2 dX10_load_14
  subst ha
  have hl := lv_entry ([.ref (fw_ad E 0 18), .int x1, .int x2]) (n := 3) (Nat.le_of_ble_eq_true rfl)
  rw [lg_entry_eq]
  generalize (lg_sl ([.ref (fw_ad E 0 18), .int x1, .int x2]) ++ List.replicate (3 - (lg_sl ([.ref (fw_ad E 0 18), .int x1, .int x2])).length) Slot.unset).toArray = ls at hl ⊢
  exact EN s.heap [] ls hP va_S.rf hl
set_option maxHeartbeats 4000000 in
set_option maxRecDepth 100000 in
theorem k_X10_takeOut (l : Launch) {E : fw_E} {o : Int64} {d : UInt64} (hE : fw_ok E) {μ μ' : fw_M} (x1 : Int32) {r : Int32} (h : f_X10_takeOut μ x1 = some (μ', r)) : Met l yX10_takeOut (fw_ws yX10_takeOut cX10_takeOut 2 (some .int)) ({ frames := 3, cells := 0, slots := 0, locals := 65 } : Room) (va_Pc [.ref (fw_ad E 0 18), .int x1] (fw_Pre E o d μ)) (fw_Q E o d (some (.int r)) μ') 0 0 (fw_A E) := by
  refine Met.ofW (cc := cX10_takeOut) (maxL := 2) (ret := (some .int)) (by decide) rfl ?_
  intro p e s m args below meth c s₁ B hml hv
  obtain ⟨ha, hK, hP, hSt⟩ := hv
  have hx := B.exec
  have hb := B.bytes
  have hr := B.returns
  have hts := atoms_spec (ws := fw_ws yX10_takeOut cX10_takeOut 2 (some .int)) B.pre
  have hU : ∀ w ∈ fw_U, w.before args s = true := fun w hw => hts w (List.mem_cons_of_mem _ hw)
  have hown : s.vm.findClass RX10 = some m.cls := findClass_of_methodNamed B.named
  have hlocks := B.notSynchronized
  have EN : ∀ (H : Heap) (locs : List Loc) (ls : Array Slot), fw_P E o d μ H → va_S (fw_A E) s.heap H locs → lv_has ls 2 [(0, .ref (fw_ad E 0 18)), (1, .int x1)] → W p l e (headSpec (fw_ws yX10_takeOut cX10_takeOut 2 (some .int)) ({ frames := 3, cells := 0, slots := 0, locals := 65 } : Room)).room s m args below meth c H locs 0 0 (MQ below (fw_Q E o d (some (.int r)) μ') args s 0 0 (fw_A E)) (F0 m 0 ls []) := by
    intro H locs ls hP hS hl
    unfold f_X10_takeOut at h
    refine lv_aload_n hx hb dX10_takeOut_0 rfl (lv_at hl 0 rfl) ?_
    obtain ⟨μ1, r1, hc1, h⟩ := fw_b2_e h
    refine fw_retv (va_runV (As := []) (rest := []) ⟨hx, hb, hml, hown, hU⟩ (k_X10_remembers l hE hc1) (cwV 0 hU (fw_gV m_1186 m_1188 ms_11 m_9 m_1189) rfl rfl rfl (by decide +kernel) ⟨(Nat.le_of_ble_eq_true rfl), (Nat.le_of_ble_eq_true rfl)⟩) ⟨fw_blind, fw_recv hK hP (fw_V0 (f := 18) (by decide) (by decide)) rfl rfl, fun U hU9 hW9 => ⟨rfl, fw_pre hK hP hSt hS U hU9 hW9⟩⟩ rfl rfl hl.1 rfl (lv_room (Nat.le_of_ble_eq_true rfl)) dX10_takeOut_1 ⟨Nat.zero_le _, Nat.zero_le _⟩) hS (fun H locs hP hS => ?_)
    refine lv_aload_n hx hb dX10_takeOut_4 rfl (lv_at hl 0 rfl) ?_
    refine lv_aload_n hx hb dX10_takeOut_5 rfl (lv_at hl 0 rfl) ?_
    refine lv_iload_n hx hb dX10_takeOut_6 rfl (lv_at hl 1 rfl) ?_
    obtain ⟨μ2, r2, hc2, h⟩ := fw_b2_e h
    refine fw_ret (va_runV (As := [.int x1]) (rest := [.ref (fw_ad E 0 18)]) ⟨hx, hb, hml, hown, hU⟩ (k_X10_takes l hE x1 hc2) (cwV 1 hU (fw_gV m_1251 m_1253 ms_23 m_9 m_1254) rfl rfl rfl (by decide +kernel) ⟨(Nat.le_of_ble_eq_true rfl), (Nat.le_of_ble_eq_true rfl)⟩) ⟨fw_blind, fw_recv hK hP (fw_V0 (f := 18) (by decide) (by decide)) rfl rfl, fun U hU9 hW9 => ⟨rfl, fw_pre hK hP hSt hS U hU9 hW9⟩⟩ rfl rfl hl.1 rfl (lv_room (Nat.le_of_ble_eq_true rfl)) dX10_takeOut_7 ⟨Nat.zero_le _, Nat.zero_le _⟩) hS (fun H locs hP hS => ?_)
    obtain ⟨μ3, r3, hc3, h⟩ := fw_b2_e h
    refine fw_ret (va_runV (As := [.int r2]) (rest := []) ⟨hx, hb, hml, hown, hU⟩ (k_X10_ends l hE r2 hc3) (cwV 1 hU (fw_gV m_1208 m_1210 ms_15 m_9 m_1211) rfl rfl rfl (by decide +kernel) ⟨(Nat.le_of_ble_eq_true rfl), (Nat.le_of_ble_eq_true rfl)⟩) ⟨fw_blind, fw_recv hK hP (fw_V0 (f := 18) (by decide) (by decide)) rfl rfl, fun U hU9 hW9 => ⟨rfl, fw_pre hK hP hSt hS U hU9 hW9⟩⟩ rfl rfl hl.1 rfl (lv_room (Nat.le_of_ble_eq_true rfl)) dX10_takeOut_10 ⟨Nat.zero_le _, Nat.zero_le _⟩) hS (fun H locs hP hS => ?_)
    exact W.iret (v := r3) hx hb hr (fw_ew (mk := Value.int) h hP hS) hS.2.2 dX10_takeOut_13
  subst ha
  have hl := lv_entry ([.ref (fw_ad E 0 18), .int x1]) (n := 2) (Nat.le_of_ble_eq_true rfl)
  rw [lg_entry_eq]
  generalize (lg_sl ([.ref (fw_ad E 0 18), .int x1]) ++ List.replicate (2 - (lg_sl ([.ref (fw_ad E 0 18), .int x1])).length) Slot.unset).toArray = ls at hl ⊢
  exact EN s.heap [] ls hP va_S.rf hl
set_option maxHeartbeats 4000000 in
set_option maxRecDepth 100000 in
theorem k_X10_setTemperature (l : Launch) {E : fw_E} {o : Int64} {d : UInt64} (hE : fw_ok E) {μ μ' : fw_M} (x1 : Int32) (x2 : Int32) {r : UInt32} (h : f_X10_setTemperature μ x1 x2 = some (μ', r)) : Met l yX10_setTemperature (fw_ws yX10_setTemperature cX10_setTemperature 4 (some .float)) ({ frames := 3, cells := 0, slots := 0, locals := 65 } : Room) (va_Pc [.ref (fw_ad E 0 18), .int x1, .int x2] (fw_Pre E o d μ)) (fw_Q E o d (some (.float r)) μ') 0 0 (fw_A E) := by
  refine Met.ofW (cc := cX10_setTemperature) (maxL := 4) (ret := (some .float)) (by decide) rfl ?_
  intro p e s m args below meth c s₁ B hml hv
  obtain ⟨ha, hK, hP, hSt⟩ := hv
  have hx := B.exec
  have hb := B.bytes
  have hr := B.returns
  have hts := atoms_spec (ws := fw_ws yX10_setTemperature cX10_setTemperature 4 (some .float)) B.pre
  have hU : ∀ w ∈ fw_U, w.before args s = true := fun w hw => hts w (List.mem_cons_of_mem _ hw)
  have hown : s.vm.findClass RX10 = some m.cls := findClass_of_methodNamed B.named
  have hlocks := B.notSynchronized
  have EN : ∀ (H : Heap) (locs : List Loc) (ls : Array Slot), fw_P E o d μ H → va_S (fw_A E) s.heap H locs → lv_has ls 4 [(0, .ref (fw_ad E 0 18)), (1, .int x1), (2, .int x2)] → W p l e (headSpec (fw_ws yX10_setTemperature cX10_setTemperature 4 (some .float)) ({ frames := 3, cells := 0, slots := 0, locals := 65 } : Room)).room s m args below meth c H locs 0 0 (MQ below (fw_Q E o d (some (.float r)) μ') args s 0 0 (fw_A E)) (F0 m 0 ls []) := by
    intro H locs ls hP hS hl
    unfold f_X10_setTemperature at h
    refine lv_aload_n hx hb dX10_setTemperature_0 rfl (lv_at hl 0 rfl) ?_
    obtain ⟨μ1, r1, hc1, h⟩ := fw_b2_e h
    refine fw_retv (va_runV (As := []) (rest := []) ⟨hx, hb, hml, hown, hU⟩ (k_X10_remembers l hE hc1) (cwV 0 hU (fw_gV m_1186 m_1188 ms_11 m_9 m_1189) rfl rfl rfl (by decide +kernel) ⟨(Nat.le_of_ble_eq_true rfl), (Nat.le_of_ble_eq_true rfl)⟩) ⟨fw_blind, fw_recv hK hP (fw_V0 (f := 18) (by decide) (by decide)) rfl rfl, fun U hU9 hW9 => ⟨rfl, fw_pre hK hP hSt hS U hU9 hW9⟩⟩ rfl rfl hl.1 rfl (lv_room (Nat.le_of_ble_eq_true rfl)) dX10_setTemperature_1 ⟨Nat.zero_le _, Nat.zero_le _⟩) hS (fun H locs hP hS => ?_)
    refine lv_aload_n hx hb dX10_setTemperature_4 rfl (lv_at hl 0 rfl) ?_
    refine lv_aload_n hx hb dX10_setTemperature_5 rfl (lv_at hl 0 rfl) ?_
    refine lv_iload_n hx hb dX10_setTemperature_6 rfl (lv_at hl 1 rfl) ?_
    refine lv_iload_n hx hb dX10_setTemperature_7 rfl (lv_at hl 2 rfl) ?_
    obtain ⟨μ2, r2, hc2, h⟩ := fw_b2_e h
    refine fw_ret (va_runV (As := [.int x1, .int x2]) (rest := [.ref (fw_ad E 0 18)]) ⟨hx, hb, hml, hown, hU⟩ (k_X10_heats l hE x1 x2 hc2) (cwV 2 hU (fw_gV m_1259 m_1261 ms_24 m_9 m_1262) rfl rfl rfl (by decide +kernel) ⟨(Nat.le_of_ble_eq_true rfl), (Nat.le_of_ble_eq_true rfl)⟩) ⟨fw_blind, fw_recv hK hP (fw_V0 (f := 18) (by decide) (by decide)) rfl rfl, fun U hU9 hW9 => ⟨rfl, fw_pre hK hP hSt hS U hU9 hW9⟩⟩ rfl rfl hl.1 rfl (lv_room (Nat.le_of_ble_eq_true rfl)) dX10_setTemperature_8 ⟨Nat.zero_le _, Nat.zero_le _⟩) hS (fun H locs hP hS => ?_)
    obtain ⟨μ3, r3, hc3, h⟩ := fw_b2_e h
    refine fw_ret (va_runV (As := [.int r2]) (rest := []) ⟨hx, hb, hml, hown, hU⟩ (k_X10_ends l hE r2 hc3) (cwV 1 hU (fw_gV m_1208 m_1210 ms_15 m_9 m_1211) rfl rfl rfl (by decide +kernel) ⟨(Nat.le_of_ble_eq_true rfl), (Nat.le_of_ble_eq_true rfl)⟩) ⟨fw_blind, fw_recv hK hP (fw_V0 (f := 18) (by decide) (by decide)) rfl rfl, fun U hU9 hW9 => ⟨rfl, fw_pre hK hP hSt hS U hU9 hW9⟩⟩ rfl rfl hl.1 rfl (lv_room (Nat.le_of_ble_eq_true rfl)) dX10_setTemperature_11 ⟨Nat.zero_le _, Nat.zero_le _⟩) hS (fun H locs hP hS => ?_)
    refine lv_istore_n (lv' := [(3, .int r3), (0, .ref (fw_ad E 0 18)), (1, .int x1), (2, .int x2)]) hx hb dX10_setTemperature_14 rfl hl (by decide) rfl (fun ls hl => ?_)
    refine lv_iload_n hx hb dX10_setTemperature_15 rfl (lv_at hl 0 rfl) ?_
    refine lv_i2f hx hb dX10_setTemperature_16 ?_
    refine lv_ldcf (v := (1056964608 : UInt32)) hx hb hown (hU (Cond.constantFloat RX10 94 (1056964608 : UInt32)) m_1263) dX10_setTemperature_17 ?_
    obtain ⟨g4, h⟩ := fw_g_e h
    refine lv_fmul hx hb dX10_setTemperature_19 (fw_f32_e g4) ?_
    exact W.fret (v := (FP.fmul (FP.i2f r3) (1056964608 : UInt32))) hx hb hr (fw_ew (mk := Value.float) h hP hS) hS.2.2 dX10_setTemperature_20
  subst ha
  have hl := lv_entry ([.ref (fw_ad E 0 18), .int x1, .int x2]) (n := 4) (Nat.le_of_ble_eq_true rfl)
  rw [lg_entry_eq]
  generalize (lg_sl ([.ref (fw_ad E 0 18), .int x1, .int x2]) ++ List.replicate (4 - (lg_sl ([.ref (fw_ad E 0 18), .int x1, .int x2])).length) Slot.unset).toArray = ls at hl ⊢
  exact EN s.heap [] ls hP va_S.rf hl
set_option maxHeartbeats 4000000 in
set_option maxRecDepth 100000 in
theorem k_X10_run (l : Launch) {E : fw_E} {o : Int64} {d : UInt64} (hE : fw_ok E) {μ μ' : fw_M} (x1 : Int32) {r : Int32} (h : f_X10_run μ x1 = some (μ', r)) : Met l yX10_run (fw_ws yX10_run cX10_run 2 (some .int)) ({ frames := 6, cells := 0, slots := 0, locals := 138 } : Room) (va_Pc [.ref (fw_ad E 0 18), .int x1] (fw_Pre E o d μ)) (fw_Q E o d (some (.int r)) μ') 0 0 (fw_A E) := by
  refine Met.ofW (cc := cX10_run) (maxL := 2) (ret := (some .int)) (by decide) rfl ?_
  intro p e s m args below meth c s₁ B hml hv
  obtain ⟨ha, hK, hP, hSt⟩ := hv
  have hx := B.exec
  have hb := B.bytes
  have hr := B.returns
  have hts := atoms_spec (ws := fw_ws yX10_run cX10_run 2 (some .int)) B.pre
  have hU : ∀ w ∈ fw_U, w.before args s = true := fun w hw => hts w (List.mem_cons_of_mem _ hw)
  have hown : s.vm.findClass RX10 = some m.cls := findClass_of_methodNamed B.named
  have hlocks := B.notSynchronized
  have EN : ∀ (H : Heap) (locs : List Loc) (ls : Array Slot), fw_P E o d μ H → va_S (fw_A E) s.heap H locs → lv_has ls 2 [(0, .ref (fw_ad E 0 18)), (1, .int x1)] → W p l e (headSpec (fw_ws yX10_run cX10_run 2 (some .int)) ({ frames := 6, cells := 0, slots := 0, locals := 138 } : Room)).room s m args below meth c H locs 0 0 (MQ below (fw_Q E o d (some (.int r)) μ') args s 0 0 (fw_A E)) (F0 m 0 ls []) := by
    intro H locs ls hP hS hl
    unfold f_X10_run at h
    refine lv_aload_n hx hb dX10_run_0 rfl (lv_at hl 0 rfl) ?_
    obtain ⟨μ1, r1, hc1, h⟩ := fw_b2_e h
    refine fw_retv (va_runV (As := []) (rest := []) ⟨hx, hb, hml, hown, hU⟩ (k_X10_remembers l hE hc1) (cwV 0 hU (fw_gV m_1186 m_1188 ms_11 m_9 m_1189) rfl rfl rfl (by decide +kernel) ⟨(Nat.le_of_ble_eq_true rfl), (Nat.le_of_ble_eq_true rfl)⟩) ⟨fw_blind, fw_recv hK hP (fw_V0 (f := 18) (by decide) (by decide)) rfl rfl, fun U hU9 hW9 => ⟨rfl, fw_pre hK hP hSt hS U hU9 hW9⟩⟩ rfl rfl hl.1 rfl (lv_room (Nat.le_of_ble_eq_true rfl)) dX10_run_1 ⟨Nat.zero_le _, Nat.zero_le _⟩) hS (fun H locs hP hS => ?_)
    refine lv_aload_n hx hb dX10_run_4 rfl (lv_at hl 0 rfl) ?_
    refine lv_aload_n hx hb dX10_run_5 rfl (lv_at hl 0 rfl) ?_
    refine lv_iload_n hx hb dX10_run_6 rfl (lv_at hl 1 rfl) ?_
    obtain ⟨μ2, r2, hc2, h⟩ := fw_b2_e h
    refine fw_ret (va_runV (As := [.int x1]) (rest := [.ref (fw_ad E 0 18)]) ⟨hx, hb, hml, hown, hU⟩ (k_X10_washesAll l hE x1 hc2) (cwV 1 hU (fw_gV m_1268 m_1270 ms_25 m_9 m_1271) rfl rfl rfl (by decide +kernel) ⟨(Nat.le_of_ble_eq_true rfl), (Nat.le_of_ble_eq_true rfl)⟩) ⟨fw_blind, fw_recv hK hP (fw_V0 (f := 18) (by decide) (by decide)) rfl rfl, fun U hU9 hW9 => ⟨rfl, fw_pre hK hP hSt hS U hU9 hW9⟩⟩ rfl rfl hl.1 rfl (lv_room (Nat.le_of_ble_eq_true rfl)) dX10_run_7 ⟨Nat.zero_le _, Nat.zero_le _⟩) hS (fun H locs hP hS => ?_)
    obtain ⟨μ3, r3, hc3, h⟩ := fw_b2_e h
    refine fw_ret (va_runV (As := [.int r2]) (rest := []) ⟨hx, hb, hml, hown, hU⟩ (k_X10_ends l hE r2 hc3) (cwV 1 hU (fw_gV m_1208 m_1210 ms_15 m_9 m_1211) rfl rfl rfl (by decide +kernel) ⟨(Nat.le_of_ble_eq_true rfl), (Nat.le_of_ble_eq_true rfl)⟩) ⟨fw_blind, fw_recv hK hP (fw_V0 (f := 18) (by decide) (by decide)) rfl rfl, fun U hU9 hW9 => ⟨rfl, fw_pre hK hP hSt hS U hU9 hW9⟩⟩ rfl rfl hl.1 rfl (lv_room (Nat.le_of_ble_eq_true rfl)) dX10_run_10 ⟨Nat.zero_le _, Nat.zero_le _⟩) hS (fun H locs hP hS => ?_)
    exact W.iret (v := r3) hx hb hr (fw_ew (mk := Value.int) h hP hS) hS.2.2 dX10_run_13
  subst ha
  have hl := lv_entry ([.ref (fw_ad E 0 18), .int x1]) (n := 2) (Nat.le_of_ble_eq_true rfl)
  rw [lg_entry_eq]
  generalize (lg_sl ([.ref (fw_ad E 0 18), .int x1]) ++ List.replicate (2 - (lg_sl ([.ref (fw_ad E 0 18), .int x1])).length) Slot.unset).toArray = ls at hl ⊢
  exact EN s.heap [] ls hP va_S.rf hl
set_option maxHeartbeats 4000000 in
set_option maxRecDepth 100000 in
theorem k_X10_garmentCount (l : Launch) {E : fw_E} {o : Int64} {d : UInt64} (hE : fw_ok E) {μ μ' : fw_M} {r : Int32} (h : f_X10_garmentCount μ = some (μ', r)) : Met l yX10_garmentCount (fw_ws yX10_garmentCount cX10_garmentCount 1 (some .int)) ({ frames := 0, cells := 0, slots := 0, locals := 0 } : Room) (va_Pc [.ref (fw_ad E 0 18)] (fw_Pre E o d μ)) (fw_Q E o d (some (.int r)) μ') 0 0 (fw_A E) := by
  refine Met.ofW (cc := cX10_garmentCount) (maxL := 1) (ret := (some .int)) (by decide) rfl ?_
  intro p e s m args below meth c s₁ B hml hv
  obtain ⟨ha, hK, hP, hSt⟩ := hv
  have hx := B.exec
  have hb := B.bytes
  have hr := B.returns
  have hts := atoms_spec (ws := fw_ws yX10_garmentCount cX10_garmentCount 1 (some .int)) B.pre
  have hU : ∀ w ∈ fw_U, w.before args s = true := fun w hw => hts w (List.mem_cons_of_mem _ hw)
  have hown : s.vm.findClass RX10 = some m.cls := findClass_of_methodNamed B.named
  have hlocks := B.notSynchronized
  have EN : ∀ (H : Heap) (locs : List Loc) (ls : Array Slot), fw_P E o d μ H → va_S (fw_A E) s.heap H locs → lv_has ls 1 [(0, .ref (fw_ad E 0 18))] → W p l e (headSpec (fw_ws yX10_garmentCount cX10_garmentCount 1 (some .int)) ({ frames := 0, cells := 0, slots := 0, locals := 0 } : Room)).room s m args below meth c H locs 0 0 (MQ below (fw_Q E o d (some (.int r)) μ') args s 0 0 (fw_A E)) (F0 m 0 ls []) := by
    intro H locs ls hP hS hl
    unfold f_X10_garmentCount at h
    refine lv_aload_n hx hb dX10_garmentCount_0 rfl (lv_at hl 0 rfl) ?_
    refine lv_iconst (v := (0 : Int32)) hx hb dX10_garmentCount_1 (by decide) ?_
    refine fw_put (ci := 8) (v := .int (0 : Int32)) (ty := .int) (C := RX10) (T := TX10) (N := 20) hx hb hU inU10 tyX10 tyX10_ok nmX10 hown hK hP hE hS (fw_V0 (f := 18) (by decide) (by decide)) rfl rfl 0 (by decide) (hU (Cond.fieldLink RX10 41 "LaundryServiceModel" "thrown" "I") m_1117) (fun _ h9 => h9) rfl (by decide +kernel) rfl rfl (Nat.le_of_ble_eq_true rfl) 0 (0 : Int32) (by rw [fw_u_c]; rfl) dX10_garmentCount_2 (fun H locs hP hS => ?_)
    obtain ⟨μ1, eμ1, h⟩ := fw_l_e h
    rw [← eμ1] at hP
    refine lv_aload_n hx hb dX10_garmentCount_5 rfl (lv_at hl 0 rfl) ?_
    refine va_get (D := fw_D E) (ci := 8) (v := .ref (fw_ad E 0 19)) (C := RX10) (T := TX10) (N := 20) hx hb hU inU10 hown hK (fw_at hP (fw_V0 (f := 18) (by decide) (by decide))) 0 rfl rfl 1 (by decide) (hU (Cond.fieldLink RX10 7 "LaundryServiceModel" "s" "[I") m_1118) (fun _ h9 => h9) rfl dX10_garmentCount_6 ?_
    refine lv_iconst (v := (0 : Int32)) hx hb dX10_garmentCount_9 (by decide) ?_
    refine va_iald (D := fw_D E) hx hb hK (fw_at hP (fw_V0 (f := 19) (by decide) (by decide))) 0 0 rfl rfl (fw_in_e (n := 104) (by decide)) dX10_garmentCount_10 ?_
    exact W.iret (v := (μ1 0 19 (0 : Int32).toNatClampNeg)) hx hb hr (fw_ew (mk := Value.int) h hP hS) hS.2.2 dX10_garmentCount_11
  subst ha
  have hl := lv_entry ([.ref (fw_ad E 0 18)]) (n := 1) (Nat.le_of_ble_eq_true rfl)
  rw [lg_entry_eq]
  generalize (lg_sl ([.ref (fw_ad E 0 18)]) ++ List.replicate (1 - (lg_sl ([.ref (fw_ad E 0 18)])).length) Slot.unset).toArray = ls at hl ⊢
  exact EN s.heap [] ls hP va_S.rf hl
set_option maxHeartbeats 4000000 in
set_option maxRecDepth 100000 in
theorem k_X10_asked (l : Launch) {E : fw_E} {o : Int64} {d : UInt64} (hE : fw_ok E) {μ μ' : fw_M} (x1 : Int32) (x2 : Int32) {r : Int32} (h : f_X10_asked μ x1 x2 = some (μ', r)) : Met l yX10_asked (fw_ws yX10_asked cX10_asked 3 (some .int)) ({ frames := 2, cells := 0, slots := 0, locals := 43 } : Room) (va_Pc [.ref (fw_ad E 0 18), .int x1, .int x2] (fw_Pre E o d μ)) (fw_Q E o d (some (.int r)) μ') 0 0 (fw_A E) := by
  refine Met.ofW (cc := cX10_asked) (maxL := 3) (ret := (some .int)) (by decide) rfl ?_
  intro p e s m args below meth c s₁ B hml hv
  obtain ⟨ha, hK, hP, hSt⟩ := hv
  have hx := B.exec
  have hb := B.bytes
  have hr := B.returns
  have hts := atoms_spec (ws := fw_ws yX10_asked cX10_asked 3 (some .int)) B.pre
  have hU : ∀ w ∈ fw_U, w.before args s = true := fun w hw => hts w (List.mem_cons_of_mem _ hw)
  have hown : s.vm.findClass RX10 = some m.cls := findClass_of_methodNamed B.named
  have hlocks := B.notSynchronized
  have J14 : ∀ (μ : fw_M) (x1 : Int32) (x2 : Int32) (s1 : Int32) (H : Heap) (locs : List Loc) (ls : Array Slot), f_X10_asked_J14 μ x1 x2 s1 = some (μ', r) → fw_P E o d μ H → va_S (fw_A E) s.heap H locs → lv_has ls 3 [(0, .ref (fw_ad E 0 18)), (1, .int x1), (2, .int x2)] → W p l e (headSpec (fw_ws yX10_asked cX10_asked 3 (some .int)) ({ frames := 2, cells := 0, slots := 0, locals := 43 } : Room)).room s m args below meth c H locs 0 0 (MQ below (fw_Q E o d (some (.int r)) μ') args s 0 0 (fw_A E)) (F0 m 14 ls [.int s1, .ref (fw_ad E 0 18)]) := by
    intro μ x1 x2 s1 H locs ls h hP hS hl
    unfold f_X10_asked_J14 at h
    refine fw_put (ci := 8) (v := .int s1) (ty := .int) (C := RX10) (T := TX10) (N := 20) hx hb hU inU10 tyX10 tyX10_ok nmX10 hown hK hP hE hS (fw_V0 (f := 18) (by decide) (by decide)) rfl rfl 0 (by decide) (hU (Cond.fieldLink RX10 41 "LaundryServiceModel" "thrown" "I") m_1117) (fun _ h9 => h9) rfl (by decide +kernel) rfl rfl (Nat.le_of_ble_eq_true rfl) 0 s1 (by rw [fw_u_c]; rfl) dX10_asked_14 (fun H locs hP hS => ?_)
    obtain ⟨μ3, eμ3, h⟩ := fw_l_e h
    rw [← eμ3] at hP
    refine lv_aload_n hx hb dX10_asked_17 rfl (lv_at hl 0 rfl) ?_
    refine va_get (D := fw_D E) (ci := 8) (v := .int (μ3 0 18 0)) (C := RX10) (T := TX10) (N := 20) hx hb hU inU10 hown hK (fw_at hP (fw_V0 (f := 18) (by decide) (by decide))) 0 rfl rfl 0 (by decide) (hU (Cond.fieldLink RX10 41 "LaundryServiceModel" "thrown" "I") m_1117) (fun _ h9 => h9) rfl dX10_asked_18 ?_
    refine lv_if_le (tgt := 28) hx hb dX10_asked_21 (by decide) (fun c4 => ?_) (fun c4 => ?_)
    · rw [if_pos c4] at h
      refine lv_aload_n hx hb dX10_asked_28 rfl (lv_at hl 0 rfl) ?_
      refine lv_iload_n hx hb dX10_asked_29 rfl (lv_at hl 1 rfl) ?_
      refine lv_iload_n hx hb dX10_asked_30 rfl (lv_at hl 2 rfl) ?_
      obtain ⟨r5, hc5, h⟩ := fw_b1_e h
      refine fw_ret (va_runV (As := [.int x1, .int x2]) (rest := []) ⟨hx, hb, hml, hown, hU⟩ (k_X10_of l hE x1 x2 hc5) (cwV 2 hU (fw_gV m_1235 m_1237 ms_20 m_9 m_1238) rfl rfl rfl (by decide +kernel) ⟨(Nat.le_of_ble_eq_true rfl), (Nat.le_of_ble_eq_true rfl)⟩) ⟨fw_blind, fw_recv hK hP (fw_V0 (f := 18) (by decide) (by decide)) rfl rfl, fun U hU9 hW9 => ⟨rfl, fw_pre hK hP hSt hS U hU9 hW9⟩⟩ rfl rfl hl.1 rfl (lv_room (Nat.le_of_ble_eq_true rfl)) dX10_asked_31 ⟨Nat.zero_le _, Nat.zero_le _⟩) hS (fun H locs hP hS => ?_)
      exact W.iret (v := r5) hx hb hr (fw_ew (mk := Value.int) h hP hS) hS.2.2 dX10_asked_34
    · rw [if_neg c4] at h
      refine lv_iconst (v := (0 : Int32)) hx hb dX10_asked_24 (by decide) ?_
      refine lv_goto (tgt := 34) hx hb dX10_asked_25 (by decide) ?_
      exact W.iret (v := (0 : Int32)) hx hb hr (fw_ew (mk := Value.int) h hP hS) hS.2.2 dX10_asked_34
  have EN : ∀ (H : Heap) (locs : List Loc) (ls : Array Slot), fw_P E o d μ H → va_S (fw_A E) s.heap H locs → lv_has ls 3 [(0, .ref (fw_ad E 0 18)), (1, .int x1), (2, .int x2)] → W p l e (headSpec (fw_ws yX10_asked cX10_asked 3 (some .int)) ({ frames := 2, cells := 0, slots := 0, locals := 43 } : Room)).room s m args below meth c H locs 0 0 (MQ below (fw_Q E o d (some (.int r)) μ') args s 0 0 (fw_A E)) (F0 m 0 ls []) := by
    intro H locs ls hP hS hl
    unfold f_X10_asked at h
    refine lv_aload_n hx hb dX10_asked_0 rfl (lv_at hl 0 rfl) ?_
    refine lv_aload_n hx hb dX10_asked_1 rfl (lv_at hl 0 rfl) ?_
    refine lv_iload_n hx hb dX10_asked_2 rfl (lv_at hl 1 rfl) ?_
    obtain ⟨r1, hc1, h⟩ := fw_b1_e h
    refine fw_ret (va_runV (As := [.int x1]) (rest := [.ref (fw_ad E 0 18)]) ⟨hx, hb, hml, hown, hU⟩ (k_X10_isGarment l hE x1 hc1) (cwV 1 hU (fw_gV m_1228 m_1230 ms_19 m_9 m_1231) rfl rfl rfl (by decide +kernel) ⟨(Nat.le_of_ble_eq_true rfl), (Nat.le_of_ble_eq_true rfl)⟩) ⟨fw_blind, fw_recv hK hP (fw_V0 (f := 18) (by decide) (by decide)) rfl rfl, fun U hU9 hW9 => ⟨rfl, fw_pre hK hP hSt hS U hU9 hW9⟩⟩ rfl rfl hl.1 rfl (lv_room (Nat.le_of_ble_eq_true rfl)) dX10_asked_3 ⟨Nat.zero_le _, Nat.zero_le _⟩) hS (fun H locs hP hS => ?_)
    refine lv_if_eq (tgt := 13) hx hb dX10_asked_6 (by decide) (fun c2 => ?_) (fun c2 => ?_)
    · rw [if_pos c2] at h
      refine lv_iconst (v := (1 : Int32)) hx hb dX10_asked_13 (by decide) ?_
      exact J14 μ x1 x2 (1 : Int32) H locs ls h hP hS (lv_sub hl [0, 1, 2] rfl)
    · rw [if_neg c2] at h
      refine lv_iconst (v := (0 : Int32)) hx hb dX10_asked_9 (by decide) ?_
      refine lv_goto (tgt := 14) hx hb dX10_asked_10 (by decide) ?_
      exact J14 μ x1 x2 (0 : Int32) H locs ls h hP hS (lv_sub hl [0, 1, 2] rfl)
  subst ha
  have hl := lv_entry ([.ref (fw_ad E 0 18), .int x1, .int x2]) (n := 3) (Nat.le_of_ble_eq_true rfl)
  rw [lg_entry_eq]
  generalize (lg_sl ([.ref (fw_ad E 0 18), .int x1, .int x2]) ++ List.replicate (3 - (lg_sl ([.ref (fw_ad E 0 18), .int x1, .int x2])).length) Slot.unset).toArray = ls at hl ⊢
  exact EN s.heap [] ls hP va_S.rf hl
set_option maxHeartbeats 4000000 in
set_option maxRecDepth 100000 in
theorem k_X10_client (l : Launch) {E : fw_E} {o : Int64} {d : UInt64} (hE : fw_ok E) {μ μ' : fw_M} (x1 : Int32) {r : Int32} (h : f_X10_client μ x1 = some (μ', r)) : Met l yX10_client (fw_ws yX10_client cX10_client 2 (some .int)) ({ frames := 3, cells := 0, slots := 0, locals := 65 } : Room) (va_Pc [.ref (fw_ad E 0 18), .int x1] (fw_Pre E o d μ)) (fw_Q E o d (some (.int r)) μ') 0 0 (fw_A E) := by
  refine Met.ofW (cc := cX10_client) (maxL := 2) (ret := (some .int)) (by decide) rfl ?_
  intro p e s m args below meth c s₁ B hml hv
  obtain ⟨ha, hK, hP, hSt⟩ := hv
  have hx := B.exec
  have hb := B.bytes
  have hr := B.returns
  have hts := atoms_spec (ws := fw_ws yX10_client cX10_client 2 (some .int)) B.pre
  have hU : ∀ w ∈ fw_U, w.before args s = true := fun w hw => hts w (List.mem_cons_of_mem _ hw)
  have hown : s.vm.findClass RX10 = some m.cls := findClass_of_methodNamed B.named
  have hlocks := B.notSynchronized
  have EN : ∀ (H : Heap) (locs : List Loc) (ls : Array Slot), fw_P E o d μ H → va_S (fw_A E) s.heap H locs → lv_has ls 2 [(0, .ref (fw_ad E 0 18)), (1, .int x1)] → W p l e (headSpec (fw_ws yX10_client cX10_client 2 (some .int)) ({ frames := 3, cells := 0, slots := 0, locals := 65 } : Room)).room s m args below meth c H locs 0 0 (MQ below (fw_Q E o d (some (.int r)) μ') args s 0 0 (fw_A E)) (F0 m 0 ls []) := by
    intro H locs ls hP hS hl
    unfold f_X10_client at h
    refine lv_aload_n hx hb dX10_client_0 rfl (lv_at hl 0 rfl) ?_
    refine lv_iload_n hx hb dX10_client_1 rfl (lv_at hl 1 rfl) ?_
    refine lv_iconst (v := (0 : Int32)) hx hb dX10_client_2 (by decide) ?_
    obtain ⟨μ1, r1, hc1, h⟩ := fw_b2_e h
    refine fw_ret (va_runV (As := [.int x1, .int (0 : Int32)]) (rest := []) ⟨hx, hb, hml, hown, hU⟩ (k_X10_asked l hE x1 (0 : Int32) hc1) (cwV 2 hU (fw_gV m_1334 m_1336 ms_35 m_9 m_1337) rfl rfl rfl (by decide +kernel) ⟨(Nat.le_of_ble_eq_true rfl), (Nat.le_of_ble_eq_true rfl)⟩) ⟨fw_blind, fw_recv hK hP (fw_V0 (f := 18) (by decide) (by decide)) rfl rfl, fun U hU9 hW9 => ⟨rfl, fw_pre hK hP hSt hS U hU9 hW9⟩⟩ rfl rfl hl.1 rfl (lv_room (Nat.le_of_ble_eq_true rfl)) dX10_client_3 ⟨Nat.zero_le _, Nat.zero_le _⟩) hS (fun H locs hP hS => ?_)
    exact W.iret (v := r1) hx hb hr (fw_ew (mk := Value.int) h hP hS) hS.2.2 dX10_client_6
  subst ha
  have hl := lv_entry ([.ref (fw_ad E 0 18), .int x1]) (n := 2) (Nat.le_of_ble_eq_true rfl)
  rw [lg_entry_eq]
  generalize (lg_sl ([.ref (fw_ad E 0 18), .int x1]) ++ List.replicate (2 - (lg_sl ([.ref (fw_ad E 0 18), .int x1])).length) Slot.unset).toArray = ls at hl ⊢
  exact EN s.heap [] ls hP va_S.rf hl
set_option maxHeartbeats 4000000 in
set_option maxRecDepth 100000 in
theorem k_X10_isSock (l : Launch) {E : fw_E} {o : Int64} {d : UInt64} (hE : fw_ok E) {μ μ' : fw_M} (x1 : Int32) {r : Int32} (h : f_X10_isSock μ x1 = some (μ', r)) : Met l yX10_isSock (fw_ws yX10_isSock cX10_isSock 2 (some .boolean)) ({ frames := 3, cells := 0, slots := 0, locals := 65 } : Room) (va_Pc [.ref (fw_ad E 0 18), .int x1] (fw_Pre E o d μ)) (fw_Q E o d (some (.int r)) μ') 0 0 (fw_A E) := by
  refine Met.ofW (cc := cX10_isSock) (maxL := 2) (ret := (some .boolean)) (by decide) rfl ?_
  intro p e s m args below meth c s₁ B hml hv
  obtain ⟨ha, hK, hP, hSt⟩ := hv
  have hx := B.exec
  have hb := B.bytes
  have hr := B.returns
  have hts := atoms_spec (ws := fw_ws yX10_isSock cX10_isSock 2 (some .boolean)) B.pre
  have hU : ∀ w ∈ fw_U, w.before args s = true := fun w hw => hts w (List.mem_cons_of_mem _ hw)
  have hown : s.vm.findClass RX10 = some m.cls := findClass_of_methodNamed B.named
  have hlocks := B.notSynchronized
  have EN : ∀ (H : Heap) (locs : List Loc) (ls : Array Slot), fw_P E o d μ H → va_S (fw_A E) s.heap H locs → lv_has ls 2 [(0, .ref (fw_ad E 0 18)), (1, .int x1)] → W p l e (headSpec (fw_ws yX10_isSock cX10_isSock 2 (some .boolean)) ({ frames := 3, cells := 0, slots := 0, locals := 65 } : Room)).room s m args below meth c H locs 0 0 (MQ below (fw_Q E o d (some (.int r)) μ') args s 0 0 (fw_A E)) (F0 m 0 ls []) := by
    intro H locs ls hP hS hl
    unfold f_X10_isSock at h
    refine lv_aload_n hx hb dX10_isSock_0 rfl (lv_at hl 0 rfl) ?_
    refine lv_iload_n hx hb dX10_isSock_1 rfl (lv_at hl 1 rfl) ?_
    refine lv_iconst (v := (1 : Int32)) hx hb dX10_isSock_2 (by decide) ?_
    obtain ⟨μ1, r1, hc1, h⟩ := fw_b2_e h
    refine fw_ret (va_runV (As := [.int x1, .int (1 : Int32)]) (rest := []) ⟨hx, hb, hml, hown, hU⟩ (k_X10_asked l hE x1 (1 : Int32) hc1) (cwV 2 hU (fw_gV m_1334 m_1336 ms_35 m_9 m_1337) rfl rfl rfl (by decide +kernel) ⟨(Nat.le_of_ble_eq_true rfl), (Nat.le_of_ble_eq_true rfl)⟩) ⟨fw_blind, fw_recv hK hP (fw_V0 (f := 18) (by decide) (by decide)) rfl rfl, fun U hU9 hW9 => ⟨rfl, fw_pre hK hP hSt hS U hU9 hW9⟩⟩ rfl rfl hl.1 rfl (lv_room (Nat.le_of_ble_eq_true rfl)) dX10_isSock_3 ⟨Nat.zero_le _, Nat.zero_le _⟩) hS (fun H locs hP hS => ?_)
    refine lv_iconst (v := (1 : Int32)) hx hb dX10_isSock_6 (by decide) ?_
    refine lv_icmp_ne (tgt := 14) hx hb dX10_isSock_7 (by decide) (fun c2 => ?_) (fun c2 => ?_)
    · rw [if_neg c2] at h
      refine lv_iconst (v := (0 : Int32)) hx hb dX10_isSock_14 (by decide) ?_
      exact W.zret (v := (0 : Int32)) hx hb hr rfl (fw_ew (mk := Value.int) h hP hS) hS.2.2 dX10_isSock_15
    · rw [if_pos c2] at h
      refine lv_iconst (v := (1 : Int32)) hx hb dX10_isSock_10 (by decide) ?_
      refine lv_goto (tgt := 15) hx hb dX10_isSock_11 (by decide) ?_
      exact W.zret (v := (1 : Int32)) hx hb hr rfl (fw_ew (mk := Value.int) h hP hS) hS.2.2 dX10_isSock_15
  subst ha
  have hl := lv_entry ([.ref (fw_ad E 0 18), .int x1]) (n := 2) (Nat.le_of_ble_eq_true rfl)
  rw [lg_entry_eq]
  generalize (lg_sl ([.ref (fw_ad E 0 18), .int x1]) ++ List.replicate (2 - (lg_sl ([.ref (fw_ad E 0 18), .int x1])).length) Slot.unset).toArray = ls at hl ⊢
  exact EN s.heap [] ls hP va_S.rf hl
set_option maxHeartbeats 4000000 in
set_option maxRecDepth 100000 in
theorem k_X10_colour (l : Launch) {E : fw_E} {o : Int64} {d : UInt64} (hE : fw_ok E) {μ μ' : fw_M} (x1 : Int32) {r : Int32} (h : f_X10_colour μ x1 = some (μ', r)) : Met l yX10_colour (fw_ws yX10_colour cX10_colour 2 (some .int)) ({ frames := 3, cells := 0, slots := 0, locals := 65 } : Room) (va_Pc [.ref (fw_ad E 0 18), .int x1] (fw_Pre E o d μ)) (fw_Q E o d (some (.int r)) μ') 0 0 (fw_A E) := by
  refine Met.ofW (cc := cX10_colour) (maxL := 2) (ret := (some .int)) (by decide) rfl ?_
  intro p e s m args below meth c s₁ B hml hv
  obtain ⟨ha, hK, hP, hSt⟩ := hv
  have hx := B.exec
  have hb := B.bytes
  have hr := B.returns
  have hts := atoms_spec (ws := fw_ws yX10_colour cX10_colour 2 (some .int)) B.pre
  have hU : ∀ w ∈ fw_U, w.before args s = true := fun w hw => hts w (List.mem_cons_of_mem _ hw)
  have hown : s.vm.findClass RX10 = some m.cls := findClass_of_methodNamed B.named
  have hlocks := B.notSynchronized
  have EN : ∀ (H : Heap) (locs : List Loc) (ls : Array Slot), fw_P E o d μ H → va_S (fw_A E) s.heap H locs → lv_has ls 2 [(0, .ref (fw_ad E 0 18)), (1, .int x1)] → W p l e (headSpec (fw_ws yX10_colour cX10_colour 2 (some .int)) ({ frames := 3, cells := 0, slots := 0, locals := 65 } : Room)).room s m args below meth c H locs 0 0 (MQ below (fw_Q E o d (some (.int r)) μ') args s 0 0 (fw_A E)) (F0 m 0 ls []) := by
    intro H locs ls hP hS hl
    unfold f_X10_colour at h
    refine lv_aload_n hx hb dX10_colour_0 rfl (lv_at hl 0 rfl) ?_
    refine lv_iload_n hx hb dX10_colour_1 rfl (lv_at hl 1 rfl) ?_
    refine lv_iconst (v := (2 : Int32)) hx hb dX10_colour_2 (by decide) ?_
    obtain ⟨μ1, r1, hc1, h⟩ := fw_b2_e h
    refine fw_ret (va_runV (As := [.int x1, .int (2 : Int32)]) (rest := []) ⟨hx, hb, hml, hown, hU⟩ (k_X10_asked l hE x1 (2 : Int32) hc1) (cwV 2 hU (fw_gV m_1334 m_1336 ms_35 m_9 m_1337) rfl rfl rfl (by decide +kernel) ⟨(Nat.le_of_ble_eq_true rfl), (Nat.le_of_ble_eq_true rfl)⟩) ⟨fw_blind, fw_recv hK hP (fw_V0 (f := 18) (by decide) (by decide)) rfl rfl, fun U hU9 hW9 => ⟨rfl, fw_pre hK hP hSt hS U hU9 hW9⟩⟩ rfl rfl hl.1 rfl (lv_room (Nat.le_of_ble_eq_true rfl)) dX10_colour_3 ⟨Nat.zero_le _, Nat.zero_le _⟩) hS (fun H locs hP hS => ?_)
    exact W.iret (v := r1) hx hb hr (fw_ew (mk := Value.int) h hP hS) hS.2.2 dX10_colour_6
  subst ha
  have hl := lv_entry ([.ref (fw_ad E 0 18), .int x1]) (n := 2) (Nat.le_of_ble_eq_true rfl)
  rw [lg_entry_eq]
  generalize (lg_sl ([.ref (fw_ad E 0 18), .int x1]) ++ List.replicate (2 - (lg_sl ([.ref (fw_ad E 0 18), .int x1])).length) Slot.unset).toArray = ls at hl ⊢
  exact EN s.heap [] ls hP va_S.rf hl
