/-! contracts, laid by wip/whole/lay.py out of the bytecode listing -/
/-- as Met.ofW, for a method of a class in which other methods are overridden -/
theorem fw_ofWF {l : Launch} {y : MethodName} {ws ws' : List Cond} {rm : Room} {Pc : Array Value → State → Prop} {Qc : Array Value → State → Outcome → State → Prop} {mc ms : Nat} {free : Addr → Prop} {cc : ByteArray} {maxL : Nat} {ret : Option FieldType}
    (hy : plainFor y = true) (hw : ws = Cond.code y cc maxL ret :: ws')
    (body : ∀ p e s m args below meth c s₁, BodyLoose p l y (headSpec ws rm) cc maxL ret e s m args below meth c s₁ → c.maxLocals = maxL → Pc args s →
      W p l e (headSpec ws rm).room s m args below meth c s.heap [] 0 0 (MQ below Qc args s mc ms free) (entryFrame m args maxL)) : Met l y ws rm Pc Qc mc ms free := by
  refine MetFree.of_bodySF (code := cc) (maxLocals := maxL) (ret := ret) hy ?_ ?_
  · intro args s m h hn
    obtain ⟨meth, c, h1, h2, h3, h4, h5, h6, -, -⟩ := Cond.code_spec hn (atoms_spec (ws := ws) h _ (by rw [hw]; exact List.mem_cons_self))
    exact ⟨meth, c, h1, h2, h3, h4, h5, h6⟩
  · intro p e s m args below meth c s₁ B hml hP _
    have hh0 : s₁.heap = s.heap := by rw [B.state]; rfl
    obtain ⟨t, a1, o, b1, b2, b3⟩ := body p e s m args below meth c s₁ B hml hP s₁ hh0 (Stand.of_body B)
    exact ⟨t, o, a1, b1, b2, ⟨b3.1, b3.2⟩⟩
set_option maxHeartbeats 4000000 in
set_option maxRecDepth 100000 in
theorem k_X5_empty (l : Launch) {E : fw_E} {o : Int64} {d : UInt64} (hE : fw_ok E) {μ μ' : fw_M} {r : Unit} (h : f_X5_empty μ = some (μ', r)) : Met l yX5_empty (fw_ws yX5_empty cX5_empty 1 none) ({ frames := 0, cells := 0, slots := 0, locals := 0 } : Room) (va_Pc [.ref (fw_ad E 0 16)] (fw_Pre E o d μ)) (fw_Q E o d none μ') 0 0 (fw_A E) := by
  refine Met.ofW (cc := cX5_empty) (maxL := 1) (ret := none) (by decide) rfl ?_
  intro p e s m args below meth c s₁ B hml hv
  obtain ⟨ha, hK, hP, hSt⟩ := hv
  have hx := B.exec
  have hb := B.bytes
  have hr := B.returns
  have hts := atoms_spec (ws := fw_ws yX5_empty cX5_empty 1 none) B.pre
  have hU : ∀ w ∈ fw_U, w.before args s = true := fun w hw => hts w (List.mem_cons_of_mem _ hw)
  have hown : s.vm.findClass RX5 = some m.cls := findClass_of_methodNamed B.named
  have hlocks := B.notSynchronized
  have EN : ∀ (H : Heap) (locs : List Loc) (ls : Array Slot), fw_P E o d μ H → va_S (fw_A E) s.heap H locs → lv_has ls 1 [(0, .ref (fw_ad E 0 16))] → W p l e (headSpec (fw_ws yX5_empty cX5_empty 1 none) ({ frames := 0, cells := 0, slots := 0, locals := 0 } : Room)).room s m args below meth c H locs 0 0 (MQ below (fw_Q E o d none μ') args s 0 0 (fw_A E)) (F0 m 0 ls []) := by
    intro H locs ls hP hS hl
    unfold f_X5_empty at h
    refine lv_aload_n hx hb dX5_empty_0 rfl (lv_at hl 0 rfl) ?_
    refine lv_iconst (v := (0 : Int32)) hx hb dX5_empty_1 (by decide) ?_
    refine fw_put (ci := 5) (v := .int (0 : Int32)) (ty := .int) (C := RX5) (T := TX5) (N := 2) hx hb hU inU5 tyX5 tyX5_ok nmX5 hown hK hP hE hS (fw_V0 (f := 16) (by decide) (by decide)) rfl rfl 1 (by decide) (hU (Cond.fieldLink RX5 15 "LaundryService$Output" "length" "I") m_186) (fun _ h9 => h9) rfl (by decide +kernel) rfl rfl (Nat.le_of_ble_eq_true rfl) 1 (0 : Int32) (by rw [fw_u_c]; rfl) dX5_empty_2 (fun H locs hP hS => ?_)
    obtain ⟨μ1, eμ1, h⟩ := fw_l_e h
    rw [← eμ1] at hP
    exact W.vret hx hb hr (fw_ev h hP hS) hS.2.2 dX5_empty_5
  subst ha
  have hl := lv_entry ([.ref (fw_ad E 0 16)]) (n := 1) (Nat.le_of_ble_eq_true rfl)
  rw [lg_entry_eq]
  generalize (lg_sl ([.ref (fw_ad E 0 16)]) ++ List.replicate (1 - (lg_sl ([.ref (fw_ad E 0 16)])).length) Slot.unset).toArray = ls at hl ⊢
  exact EN s.heap [] ls hP va_S.rf hl
set_option maxHeartbeats 4000000 in
set_option maxRecDepth 100000 in
theorem k_X5_append (l : Launch) {E : fw_E} {o : Int64} {d : UInt64} (hE : fw_ok E) {μ μ' : fw_M} (x1 : Int32) {r : Unit} (h : f_X5_append μ x1 = some (μ', r)) : Met l yX5_append (fw_ws yX5_append cX5_append 2 none) ({ frames := 0, cells := 0, slots := 0, locals := 0 } : Room) (va_Pc [.ref (fw_ad E 0 16), .int x1] (fw_Pre E o d μ)) (fw_Q E o d none μ') 0 0 (fw_A E) := by
  refine Met.ofW (cc := cX5_append) (maxL := 2) (ret := none) (by decide) rfl ?_
  intro p e s m args below meth c s₁ B hml hv
  obtain ⟨ha, hK, hP, hSt⟩ := hv
  have hx := B.exec
  have hb := B.bytes
  have hr := B.returns
  have hts := atoms_spec (ws := fw_ws yX5_append cX5_append 2 none) B.pre
  have hU : ∀ w ∈ fw_U, w.before args s = true := fun w hw => hts w (List.mem_cons_of_mem _ hw)
  have hown : s.vm.findClass RX5 = some m.cls := findClass_of_methodNamed B.named
  have hlocks := B.notSynchronized
  have EN : ∀ (H : Heap) (locs : List Loc) (ls : Array Slot), fw_P E o d μ H → va_S (fw_A E) s.heap H locs → lv_has ls 2 [(0, .ref (fw_ad E 0 16)), (1, .int x1)] → W p l e (headSpec (fw_ws yX5_append cX5_append 2 none) ({ frames := 0, cells := 0, slots := 0, locals := 0 } : Room)).room s m args below meth c H locs 0 0 (MQ below (fw_Q E o d none μ') args s 0 0 (fw_A E)) (F0 m 0 ls []) := by
    intro H locs ls hP hS hl
    unfold f_X5_append at h
    refine lv_aload_n hx hb dX5_append_0 rfl (lv_at hl 0 rfl) ?_
    refine va_get (D := fw_D E) (ci := 5) (v := .int (μ 0 16 1)) (C := RX5) (T := TX5) (N := 2) hx hb hU inU5 hown hK (fw_at hP (fw_V0 (f := 16) (by decide) (by decide))) 0 rfl rfl 1 (by decide) (hU (Cond.fieldLink RX5 15 "LaundryService$Output" "length" "I") m_186) (fun _ h9 => h9) rfl dX5_append_1 ?_
    refine lv_aload_n hx hb dX5_append_4 rfl (lv_at hl 0 rfl) ?_
    refine va_get (D := fw_D E) (ci := 5) (v := .ref (fw_ad E 0 17)) (C := RX5) (T := TX5) (N := 2) hx hb hU inU5 hown hK (fw_at hP (fw_V0 (f := 16) (by decide) (by decide))) 0 rfl rfl 0 (by decide) (hU (Cond.fieldLink RX5 9 "LaundryService$Output" "characters" "[C") m_184) (fun _ h9 => h9) rfl dX5_append_5 ?_
    refine va_alen (D := fw_D E) (v := (176 : Int32)) hx hb hK (fw_at hP (fw_V0 (f := 17) (by decide) (by decide))) 0 2 rfl rfl rfl dX5_append_8 ?_
    refine lv_icmp_ge (tgt := 32) hx hb dX5_append_9 (by decide) (fun c1 => ?_) (fun c1 => ?_)
    · rw [if_pos c1] at h
      exact W.vret hx hb hr (fw_ev h hP hS) hS.2.2 dX5_append_32
    · rw [if_neg c1] at h
      refine lv_aload_n hx hb dX5_append_12 rfl (lv_at hl 0 rfl) ?_
      refine va_get (D := fw_D E) (ci := 5) (v := .ref (fw_ad E 0 17)) (C := RX5) (T := TX5) (N := 2) hx hb hU inU5 hown hK (fw_at hP (fw_V0 (f := 16) (by decide) (by decide))) 0 rfl rfl 0 (by decide) (hU (Cond.fieldLink RX5 9 "LaundryService$Output" "characters" "[C") m_184) (fun _ h9 => h9) rfl dX5_append_13 ?_
      refine lv_aload_n hx hb dX5_append_16 rfl (lv_at hl 0 rfl) ?_
      refine va_get (D := fw_D E) (ci := 5) (v := .int (μ 0 16 1)) (C := RX5) (T := TX5) (N := 2) hx hb hU inU5 hown hK (fw_at hP (fw_V0 (f := 16) (by decide) (by decide))) 0 rfl rfl 1 (by decide) (hU (Cond.fieldLink RX5 15 "LaundryService$Output" "length" "I") m_186) (fun _ h9 => h9) rfl dX5_append_17 ?_
      refine lv_iload_n hx hb dX5_append_20 rfl (lv_at hl 1 rfl) ?_
      obtain ⟨g2, h⟩ := fw_g_e h
      refine fw_cast (n := 176) hx hb hK hP hE hS (fw_V0 (f := 17) (by decide) (by decide)) (fun _ => rfl) (fw_in_e g2) dX5_append_21 (fun H locs hP hS => ?_)
      obtain ⟨μ3, eμ3, h⟩ := fw_l_e h
      rw [← eμ3] at hP
      refine lv_aload_n hx hb dX5_append_22 rfl (lv_at hl 0 rfl) ?_
      refine lv_dup hx hb dX5_append_23 rfl ?_
      refine va_get (D := fw_D E) (ci := 5) (v := .int (μ3 0 16 1)) (C := RX5) (T := TX5) (N := 2) hx hb hU inU5 hown hK (fw_at hP (fw_V0 (f := 16) (by decide) (by decide))) 0 rfl rfl 1 (by decide) (hU (Cond.fieldLink RX5 15 "LaundryService$Output" "length" "I") m_186) (fun _ h9 => h9) rfl dX5_append_24 ?_
      refine lv_iconst (v := (1 : Int32)) hx hb dX5_append_27 (by decide) ?_
      refine lv_iadd hx hb dX5_append_28 ?_
      refine fw_put (ci := 5) (v := .int ((μ3 0 16 1) + (1 : Int32))) (ty := .int) (C := RX5) (T := TX5) (N := 2) hx hb hU inU5 tyX5 tyX5_ok nmX5 hown hK hP hE hS (fw_V0 (f := 16) (by decide) (by decide)) rfl rfl 1 (by decide) (hU (Cond.fieldLink RX5 15 "LaundryService$Output" "length" "I") m_186) (fun _ h9 => h9) rfl (by decide +kernel) rfl rfl (Nat.le_of_ble_eq_true rfl) 1 ((μ3 0 16 1) + (1 : Int32)) (by rw [fw_u_c]; rfl) dX5_append_29 (fun H locs hP hS => ?_)
      obtain ⟨μ4, eμ4, h⟩ := fw_l_e h
      rw [← eμ4] at hP
      exact W.vret hx hb hr (fw_ev h hP hS) hS.2.2 dX5_append_32
  subst ha
  have hl := lv_entry ([.ref (fw_ad E 0 16), .int x1]) (n := 2) (Nat.le_of_ble_eq_true rfl)
  rw [lg_entry_eq]
  generalize (lg_sl ([.ref (fw_ad E 0 16), .int x1]) ++ List.replicate (2 - (lg_sl ([.ref (fw_ad E 0 16), .int x1])).length) Slot.unset).toArray = ls at hl ⊢
  exact EN s.heap [] ls hP va_S.rf hl
set_option maxHeartbeats 4000000 in
set_option maxRecDepth 100000 in
theorem k_X1_append (l : Launch) {E : fw_E} {o : Int64} {d : UInt64} (hE : fw_ok E) {μ μ' : fw_M} (x1 : Int32) {r : Int32} (h : f_X1_append μ x1 = some (μ', r)) : Met l yX1_append (fw_ws yX1_append cX1_append 2 (some .int)) ({ frames := 0, cells := 0, slots := 0, locals := 0 } : Room) (va_Pc [.ref (fw_ad E 0 13), .int x1] (fw_Pre E o d μ)) (fw_Q E o d (some (.int r)) μ') 0 0 (fw_A E) := by
  refine Met.ofW (cc := cX1_append) (maxL := 2) (ret := (some .int)) (by decide) rfl ?_
  intro p e s m args below meth c s₁ B hml hv
  obtain ⟨ha, hK, hP, hSt⟩ := hv
  have hx := B.exec
  have hb := B.bytes
  have hr := B.returns
  have hts := atoms_spec (ws := fw_ws yX1_append cX1_append 2 (some .int)) B.pre
  have hU : ∀ w ∈ fw_U, w.before args s = true := fun w hw => hts w (List.mem_cons_of_mem _ hw)
  have hown : s.vm.findClass RX1 = some m.cls := findClass_of_methodNamed B.named
  have hlocks := B.notSynchronized
  have EN : ∀ (H : Heap) (locs : List Loc) (ls : Array Slot), fw_P E o d μ H → va_S (fw_A E) s.heap H locs → lv_has ls 2 [(0, .ref (fw_ad E 0 13)), (1, .int x1)] → W p l e (headSpec (fw_ws yX1_append cX1_append 2 (some .int)) ({ frames := 0, cells := 0, slots := 0, locals := 0 } : Room)).room s m args below meth c H locs 0 0 (MQ below (fw_Q E o d (some (.int r)) μ') args s 0 0 (fw_A E)) (F0 m 0 ls []) := by
    intro H locs ls hP hS hl
    unfold f_X1_append at h
    refine lv_aload_n hx hb dX1_append_0 rfl (lv_at hl 0 rfl) ?_
    refine va_get (D := fw_D E) (ci := 3) (v := .int (μ 0 13 1)) (C := RX1) (T := TX1) (N := 5) hx hb hU inU1 hown hK (fw_at hP (fw_V0 (f := 13) (by decide) (by decide))) 0 rfl rfl 1 (by decide) (hU (Cond.fieldLink RX1 15 "LaundryService$CommandText" "length" "I") m_159) (fun _ h9 => h9) rfl dX1_append_1 ?_
    refine lv_aload_n hx hb dX1_append_4 rfl (lv_at hl 0 rfl) ?_
    refine va_get (D := fw_D E) (ci := 3) (v := .ref (fw_ad E 0 14)) (C := RX1) (T := TX1) (N := 5) hx hb hU inU1 hown hK (fw_at hP (fw_V0 (f := 13) (by decide) (by decide))) 0 rfl rfl 0 (by decide) (hU (Cond.fieldLink RX1 9 "LaundryService$CommandText" "characters" "[C") m_158) (fun _ h9 => h9) rfl dX1_append_5 ?_
    refine va_alen (D := fw_D E) (v := (60 : Int32)) hx hb hK (fw_at hP (fw_V0 (f := 14) (by decide) (by decide))) 0 2 rfl rfl rfl dX1_append_8 ?_
    refine lv_icmp_ge (tgt := 32) hx hb dX1_append_9 (by decide) (fun c1 => ?_) (fun c1 => ?_)
    · rw [if_pos c1] at h
      refine lv_aload_n hx hb dX1_append_32 rfl (lv_at hl 0 rfl) ?_
      refine va_get (D := fw_D E) (ci := 3) (v := .int (μ 0 13 1)) (C := RX1) (T := TX1) (N := 5) hx hb hU inU1 hown hK (fw_at hP (fw_V0 (f := 13) (by decide) (by decide))) 0 rfl rfl 1 (by decide) (hU (Cond.fieldLink RX1 15 "LaundryService$CommandText" "length" "I") m_159) (fun _ h9 => h9) rfl dX1_append_33 ?_
      exact W.iret (v := (μ 0 13 1)) hx hb hr (fw_ew (mk := Value.int) h hP hS) hS.2.2 dX1_append_36
    · rw [if_neg c1] at h
      refine lv_aload_n hx hb dX1_append_12 rfl (lv_at hl 0 rfl) ?_
      refine va_get (D := fw_D E) (ci := 3) (v := .ref (fw_ad E 0 14)) (C := RX1) (T := TX1) (N := 5) hx hb hU inU1 hown hK (fw_at hP (fw_V0 (f := 13) (by decide) (by decide))) 0 rfl rfl 0 (by decide) (hU (Cond.fieldLink RX1 9 "LaundryService$CommandText" "characters" "[C") m_158) (fun _ h9 => h9) rfl dX1_append_13 ?_
      refine lv_aload_n hx hb dX1_append_16 rfl (lv_at hl 0 rfl) ?_
      refine va_get (D := fw_D E) (ci := 3) (v := .int (μ 0 13 1)) (C := RX1) (T := TX1) (N := 5) hx hb hU inU1 hown hK (fw_at hP (fw_V0 (f := 13) (by decide) (by decide))) 0 rfl rfl 1 (by decide) (hU (Cond.fieldLink RX1 15 "LaundryService$CommandText" "length" "I") m_159) (fun _ h9 => h9) rfl dX1_append_17 ?_
      refine lv_iload_n hx hb dX1_append_20 rfl (lv_at hl 1 rfl) ?_
      obtain ⟨g2, h⟩ := fw_g_e h
      refine fw_cast (n := 60) hx hb hK hP hE hS (fw_V0 (f := 14) (by decide) (by decide)) (fun _ => rfl) (fw_in_e g2) dX1_append_21 (fun H locs hP hS => ?_)
      obtain ⟨μ3, eμ3, h⟩ := fw_l_e h
      rw [← eμ3] at hP
      refine lv_aload_n hx hb dX1_append_22 rfl (lv_at hl 0 rfl) ?_
      refine lv_dup hx hb dX1_append_23 rfl ?_
      refine va_get (D := fw_D E) (ci := 3) (v := .int (μ3 0 13 1)) (C := RX1) (T := TX1) (N := 5) hx hb hU inU1 hown hK (fw_at hP (fw_V0 (f := 13) (by decide) (by decide))) 0 rfl rfl 1 (by decide) (hU (Cond.fieldLink RX1 15 "LaundryService$CommandText" "length" "I") m_159) (fun _ h9 => h9) rfl dX1_append_24 ?_
      refine lv_iconst (v := (1 : Int32)) hx hb dX1_append_27 (by decide) ?_
      refine lv_iadd hx hb dX1_append_28 ?_
      refine fw_put (ci := 3) (v := .int ((μ3 0 13 1) + (1 : Int32))) (ty := .int) (C := RX1) (T := TX1) (N := 5) hx hb hU inU1 tyX1 tyX1_ok nmX1 hown hK hP hE hS (fw_V0 (f := 13) (by decide) (by decide)) rfl rfl 1 (by decide) (hU (Cond.fieldLink RX1 15 "LaundryService$CommandText" "length" "I") m_159) (fun _ h9 => h9) rfl (by decide +kernel) rfl rfl (Nat.le_of_ble_eq_true rfl) 1 ((μ3 0 13 1) + (1 : Int32)) (by rw [fw_u_c]; rfl) dX1_append_29 (fun H locs hP hS => ?_)
      obtain ⟨μ4, eμ4, h⟩ := fw_l_e h
      rw [← eμ4] at hP
      refine lv_aload_n hx hb dX1_append_32 rfl (lv_at hl 0 rfl) ?_
      refine va_get (D := fw_D E) (ci := 3) (v := .int (μ4 0 13 1)) (C := RX1) (T := TX1) (N := 5) hx hb hU inU1 hown hK (fw_at hP (fw_V0 (f := 13) (by decide) (by decide))) 0 rfl rfl 1 (by decide) (hU (Cond.fieldLink RX1 15 "LaundryService$CommandText" "length" "I") m_159) (fun _ h9 => h9) rfl dX1_append_33 ?_
      exact W.iret (v := (μ4 0 13 1)) hx hb hr (fw_ew (mk := Value.int) h hP hS) hS.2.2 dX1_append_36
  subst ha
  have hl := lv_entry ([.ref (fw_ad E 0 13), .int x1]) (n := 2) (Nat.le_of_ble_eq_true rfl)
  rw [lg_entry_eq]
  generalize (lg_sl ([.ref (fw_ad E 0 13), .int x1]) ++ List.replicate (2 - (lg_sl ([.ref (fw_ad E 0 13), .int x1])).length) Slot.unset).toArray = ls at hl ⊢
  exact EN s.heap [] ls hP va_S.rf hl
set_option maxHeartbeats 4000000 in
set_option maxRecDepth 100000 in
theorem k_X1_empty (l : Launch) {E : fw_E} {o : Int64} {d : UInt64} (hE : fw_ok E) {μ μ' : fw_M} {r : Unit} (h : f_X1_empty μ = some (μ', r)) : Met l yX1_empty (fw_ws yX1_empty cX1_empty 1 none) ({ frames := 0, cells := 0, slots := 0, locals := 0 } : Room) (va_Pc [.ref (fw_ad E 0 13)] (fw_Pre E o d μ)) (fw_Q E o d none μ') 0 0 (fw_A E) := by
  refine Met.ofW (cc := cX1_empty) (maxL := 1) (ret := none) (by decide) rfl ?_
  intro p e s m args below meth c s₁ B hml hv
  obtain ⟨ha, hK, hP, hSt⟩ := hv
  have hx := B.exec
  have hb := B.bytes
  have hr := B.returns
  have hts := atoms_spec (ws := fw_ws yX1_empty cX1_empty 1 none) B.pre
  have hU : ∀ w ∈ fw_U, w.before args s = true := fun w hw => hts w (List.mem_cons_of_mem _ hw)
  have hown : s.vm.findClass RX1 = some m.cls := findClass_of_methodNamed B.named
  have hlocks := B.notSynchronized
  have EN : ∀ (H : Heap) (locs : List Loc) (ls : Array Slot), fw_P E o d μ H → va_S (fw_A E) s.heap H locs → lv_has ls 1 [(0, .ref (fw_ad E 0 13))] → W p l e (headSpec (fw_ws yX1_empty cX1_empty 1 none) ({ frames := 0, cells := 0, slots := 0, locals := 0 } : Room)).room s m args below meth c H locs 0 0 (MQ below (fw_Q E o d none μ') args s 0 0 (fw_A E)) (F0 m 0 ls []) := by
    intro H locs ls hP hS hl
    unfold f_X1_empty at h
    refine lv_aload_n hx hb dX1_empty_0 rfl (lv_at hl 0 rfl) ?_
    refine lv_iconst (v := (0 : Int32)) hx hb dX1_empty_1 (by decide) ?_
    refine fw_put (ci := 3) (v := .int (0 : Int32)) (ty := .int) (C := RX1) (T := TX1) (N := 5) hx hb hU inU1 tyX1 tyX1_ok nmX1 hown hK hP hE hS (fw_V0 (f := 13) (by decide) (by decide)) rfl rfl 1 (by decide) (hU (Cond.fieldLink RX1 15 "LaundryService$CommandText" "length" "I") m_159) (fun _ h9 => h9) rfl (by decide +kernel) rfl rfl (Nat.le_of_ble_eq_true rfl) 1 (0 : Int32) (by rw [fw_u_c]; rfl) dX1_empty_2 (fun H locs hP hS => ?_)
    obtain ⟨μ1, eμ1, h⟩ := fw_l_e h
    rw [← eμ1] at hP
    exact W.vret hx hb hr (fw_ev h hP hS) hS.2.2 dX1_empty_5
  subst ha
  have hl := lv_entry ([.ref (fw_ad E 0 13)]) (n := 1) (Nat.le_of_ble_eq_true rfl)
  rw [lg_entry_eq]
  generalize (lg_sl ([.ref (fw_ad E 0 13)]) ++ List.replicate (1 - (lg_sl ([.ref (fw_ad E 0 13)])).length) Slot.unset).toArray = ls at hl ⊢
  exact EN s.heap [] ls hP va_S.rf hl
set_option maxHeartbeats 4000000 in
set_option maxRecDepth 100000 in
theorem k_X1_accept (l : Launch) {E : fw_E} {o : Int64} {d : UInt64} (hE : fw_ok E) {μ μ' : fw_M} (x1 : Int32) {r : Int32} (h : f_X1_accept μ x1 = some (μ', r)) : Met l yX1_accept (fw_ws yX1_accept cX1_accept 2 (some .boolean)) ({ frames := 0, cells := 0, slots := 0, locals := 0 } : Room) (va_Pc [.ref (fw_ad E 0 13), .int x1] (fw_Pre E o d μ)) (fw_Q E o d (some (.int r)) μ') 0 0 (fw_A E) := by
  refine Met.ofW (cc := cX1_accept) (maxL := 2) (ret := (some .boolean)) (by decide) rfl ?_
  intro p e s m args below meth c s₁ B hml hv
  obtain ⟨ha, hK, hP, hSt⟩ := hv
  have hx := B.exec
  have hb := B.bytes
  have hr := B.returns
  have hts := atoms_spec (ws := fw_ws yX1_accept cX1_accept 2 (some .boolean)) B.pre
  have hU : ∀ w ∈ fw_U, w.before args s = true := fun w hw => hts w (List.mem_cons_of_mem _ hw)
  have hown : s.vm.findClass RX1 = some m.cls := findClass_of_methodNamed B.named
  have hlocks := B.notSynchronized
  have EN : ∀ (H : Heap) (locs : List Loc) (ls : Array Slot), fw_P E o d μ H → va_S (fw_A E) s.heap H locs → lv_has ls 2 [(0, .ref (fw_ad E 0 13)), (1, .int x1)] → W p l e (headSpec (fw_ws yX1_accept cX1_accept 2 (some .boolean)) ({ frames := 0, cells := 0, slots := 0, locals := 0 } : Room)).room s m args below meth c H locs 0 0 (MQ below (fw_Q E o d (some (.int r)) μ') args s 0 0 (fw_A E)) (F0 m 0 ls []) := by
    intro H locs ls hP hS hl
    unfold f_X1_accept at h
    refine lv_aload_n hx hb dX1_accept_0 rfl (lv_at hl 0 rfl) ?_
    refine va_get (D := fw_D E) (ci := 3) (v := .int (μ 0 13 2)) (C := RX1) (T := TX1) (N := 5) hx hb hU inU1 hown hK (fw_at hP (fw_V0 (f := 13) (by decide) (by decide))) 0 rfl rfl 2 (by decide) (hU (Cond.fieldLink RX1 19 "LaundryService$CommandText" "position" "I") m_161) (fun _ h9 => h9) rfl dX1_accept_1 ?_
    refine lv_aload_n hx hb dX1_accept_4 rfl (lv_at hl 0 rfl) ?_
    refine va_get (D := fw_D E) (ci := 3) (v := .int (μ 0 13 1)) (C := RX1) (T := TX1) (N := 5) hx hb hU inU1 hown hK (fw_at hP (fw_V0 (f := 13) (by decide) (by decide))) 0 rfl rfl 1 (by decide) (hU (Cond.fieldLink RX1 15 "LaundryService$CommandText" "length" "I") m_159) (fun _ h9 => h9) rfl dX1_accept_5 ?_
    refine lv_icmp_ge (tgt := 36) hx hb dX1_accept_8 (by decide) (fun c1 => ?_) (fun c1 => ?_)
    · rw [if_pos c1] at h
      refine lv_iconst (v := (0 : Int32)) hx hb dX1_accept_36 (by decide) ?_
      exact W.zret (v := (0 : Int32)) hx hb hr rfl (fw_ew (mk := Value.int) h hP hS) hS.2.2 dX1_accept_37
    · rw [if_neg c1] at h
      refine lv_aload_n hx hb dX1_accept_11 rfl (lv_at hl 0 rfl) ?_
      refine va_get (D := fw_D E) (ci := 3) (v := .ref (fw_ad E 0 14)) (C := RX1) (T := TX1) (N := 5) hx hb hU inU1 hown hK (fw_at hP (fw_V0 (f := 13) (by decide) (by decide))) 0 rfl rfl 0 (by decide) (hU (Cond.fieldLink RX1 9 "LaundryService$CommandText" "characters" "[C") m_158) (fun _ h9 => h9) rfl dX1_accept_12 ?_
      refine lv_aload_n hx hb dX1_accept_15 rfl (lv_at hl 0 rfl) ?_
      refine va_get (D := fw_D E) (ci := 3) (v := .int (μ 0 13 2)) (C := RX1) (T := TX1) (N := 5) hx hb hU inU1 hown hK (fw_at hP (fw_V0 (f := 13) (by decide) (by decide))) 0 rfl rfl 2 (by decide) (hU (Cond.fieldLink RX1 19 "LaundryService$CommandText" "position" "I") m_161) (fun _ h9 => h9) rfl dX1_accept_16 ?_
      obtain ⟨g2, h⟩ := fw_g_e h
      refine va_cald (D := fw_D E) hx hb hK (fw_at hP (fw_V0 (f := 14) (by decide) (by decide))) 0 2 rfl rfl (fw_in_e g2) dX1_accept_19 ?_
      refine lv_iload_n hx hb dX1_accept_20 rfl (lv_at hl 1 rfl) ?_
      refine lv_icmp_ne (tgt := 36) hx hb dX1_accept_21 (by decide) (fun c3 => ?_) (fun c3 => ?_)
      · rw [if_neg c3] at h
        refine lv_iconst (v := (0 : Int32)) hx hb dX1_accept_36 (by decide) ?_
        exact W.zret (v := (0 : Int32)) hx hb hr rfl (fw_ew (mk := Value.int) h hP hS) hS.2.2 dX1_accept_37
      · rw [if_pos c3] at h
        refine lv_aload_n hx hb dX1_accept_24 rfl (lv_at hl 0 rfl) ?_
        refine lv_dup hx hb dX1_accept_25 rfl ?_
        refine va_get (D := fw_D E) (ci := 3) (v := .int (μ 0 13 2)) (C := RX1) (T := TX1) (N := 5) hx hb hU inU1 hown hK (fw_at hP (fw_V0 (f := 13) (by decide) (by decide))) 0 rfl rfl 2 (by decide) (hU (Cond.fieldLink RX1 19 "LaundryService$CommandText" "position" "I") m_161) (fun _ h9 => h9) rfl dX1_accept_26 ?_
        refine lv_iconst (v := (1 : Int32)) hx hb dX1_accept_29 (by decide) ?_
        refine lv_iadd hx hb dX1_accept_30 ?_
        refine fw_put (ci := 3) (v := .int ((μ 0 13 2) + (1 : Int32))) (ty := .int) (C := RX1) (T := TX1) (N := 5) hx hb hU inU1 tyX1 tyX1_ok nmX1 hown hK hP hE hS (fw_V0 (f := 13) (by decide) (by decide)) rfl rfl 2 (by decide) (hU (Cond.fieldLink RX1 19 "LaundryService$CommandText" "position" "I") m_161) (fun _ h9 => h9) rfl (by decide +kernel) rfl rfl (Nat.le_of_ble_eq_true rfl) 2 ((μ 0 13 2) + (1 : Int32)) (by rw [fw_u_c]; rfl) dX1_accept_31 (fun H locs hP hS => ?_)
        obtain ⟨μ4, eμ4, h⟩ := fw_l_e h
        rw [← eμ4] at hP
        refine lv_iconst (v := (1 : Int32)) hx hb dX1_accept_34 (by decide) ?_
        exact W.zret (v := (1 : Int32)) hx hb hr rfl (fw_ew (mk := Value.int) h hP hS) hS.2.2 dX1_accept_35
  subst ha
  have hl := lv_entry ([.ref (fw_ad E 0 13), .int x1]) (n := 2) (Nat.le_of_ble_eq_true rfl)
  rw [lg_entry_eq]
  generalize (lg_sl ([.ref (fw_ad E 0 13), .int x1]) ++ List.replicate (2 - (lg_sl ([.ref (fw_ad E 0 13), .int x1])).length) Slot.unset).toArray = ls at hl ⊢
  exact EN s.heap [] ls hP va_S.rf hl
set_option maxHeartbeats 4000000 in
set_option maxRecDepth 100000 in
theorem k_X1_isAtDigit (l : Launch) {E : fw_E} {o : Int64} {d : UInt64} (hE : fw_ok E) {μ : fw_M} {r : Int32} (h : f_X1_isAtDigit μ = some r) : Met l yX1_isAtDigit (fw_ws yX1_isAtDigit cX1_isAtDigit 1 (some .boolean)) ({ frames := 0, cells := 0, slots := 0, locals := 0 } : Room) (va_Pc [.ref (fw_ad E 0 13)] (fw_Pre E o d μ)) (fw_Q E o d (some (.int r)) μ) 0 0 (fw_A E) := by
  refine Met.ofW (cc := cX1_isAtDigit) (maxL := 1) (ret := (some .boolean)) (by decide) rfl ?_
  intro p e s m args below meth c s₁ B hml hv
  obtain ⟨ha, hK, hP, hSt⟩ := hv
  have hx := B.exec
  have hb := B.bytes
  have hr := B.returns
  have hts := atoms_spec (ws := fw_ws yX1_isAtDigit cX1_isAtDigit 1 (some .boolean)) B.pre
  have hU : ∀ w ∈ fw_U, w.before args s = true := fun w hw => hts w (List.mem_cons_of_mem _ hw)
  have hown : s.vm.findClass RX1 = some m.cls := findClass_of_methodNamed B.named
  have hlocks := B.notSynchronized
  have EN : ∀ (H : Heap) (locs : List Loc) (ls : Array Slot), fw_P E o d μ H → va_S (fw_A E) s.heap H locs → lv_has ls 1 [(0, .ref (fw_ad E 0 13))] → W p l e (headSpec (fw_ws yX1_isAtDigit cX1_isAtDigit 1 (some .boolean)) ({ frames := 0, cells := 0, slots := 0, locals := 0 } : Room)).room s m args below meth c H locs 0 0 (MQ below (fw_Q E o d (some (.int r)) μ) args s 0 0 (fw_A E)) (F0 m 0 ls []) := by
    intro H locs ls hP hS hl
    unfold f_X1_isAtDigit at h
    refine lv_aload_n hx hb dX1_isAtDigit_0 rfl (lv_at hl 0 rfl) ?_
    refine va_get (D := fw_D E) (ci := 3) (v := .int (μ 0 13 2)) (C := RX1) (T := TX1) (N := 5) hx hb hU inU1 hown hK (fw_at hP (fw_V0 (f := 13) (by decide) (by decide))) 0 rfl rfl 2 (by decide) (hU (Cond.fieldLink RX1 19 "LaundryService$CommandText" "position" "I") m_161) (fun _ h9 => h9) rfl dX1_isAtDigit_1 ?_
    refine lv_aload_n hx hb dX1_isAtDigit_4 rfl (lv_at hl 0 rfl) ?_
    refine va_get (D := fw_D E) (ci := 3) (v := .int (μ 0 13 1)) (C := RX1) (T := TX1) (N := 5) hx hb hU inU1 hown hK (fw_at hP (fw_V0 (f := 13) (by decide) (by decide))) 0 rfl rfl 1 (by decide) (hU (Cond.fieldLink RX1 15 "LaundryService$CommandText" "length" "I") m_159) (fun _ h9 => h9) rfl dX1_isAtDigit_5 ?_
    refine lv_icmp_ge (tgt := 43) hx hb dX1_isAtDigit_8 (by decide) (fun c1 => ?_) (fun c1 => ?_)
    · rw [if_pos c1] at h
      refine lv_iconst (v := (0 : Int32)) hx hb dX1_isAtDigit_43 (by decide) ?_
      exact W.zret (v := (0 : Int32)) hx hb hr rfl (fw_er (mk := Value.int) h hP hS) hS.2.2 dX1_isAtDigit_44
    · rw [if_neg c1] at h
      refine lv_aload_n hx hb dX1_isAtDigit_11 rfl (lv_at hl 0 rfl) ?_
      refine va_get (D := fw_D E) (ci := 3) (v := .ref (fw_ad E 0 14)) (C := RX1) (T := TX1) (N := 5) hx hb hU inU1 hown hK (fw_at hP (fw_V0 (f := 13) (by decide) (by decide))) 0 rfl rfl 0 (by decide) (hU (Cond.fieldLink RX1 9 "LaundryService$CommandText" "characters" "[C") m_158) (fun _ h9 => h9) rfl dX1_isAtDigit_12 ?_
      refine lv_aload_n hx hb dX1_isAtDigit_15 rfl (lv_at hl 0 rfl) ?_
      refine va_get (D := fw_D E) (ci := 3) (v := .int (μ 0 13 2)) (C := RX1) (T := TX1) (N := 5) hx hb hU inU1 hown hK (fw_at hP (fw_V0 (f := 13) (by decide) (by decide))) 0 rfl rfl 2 (by decide) (hU (Cond.fieldLink RX1 19 "LaundryService$CommandText" "position" "I") m_161) (fun _ h9 => h9) rfl dX1_isAtDigit_16 ?_
      obtain ⟨g2, h⟩ := fw_g_e h
      refine va_cald (D := fw_D E) hx hb hK (fw_at hP (fw_V0 (f := 14) (by decide) (by decide))) 0 2 rfl rfl (fw_in_e g2) dX1_isAtDigit_19 ?_
      refine lv_bipush (v := (48 : Int32)) hx hb dX1_isAtDigit_20 (by decide) ?_
      refine lv_icmp_lt (tgt := 43) hx hb dX1_isAtDigit_22 (by decide) (fun c3 => ?_) (fun c3 => ?_)
      · rw [if_pos c3] at h
        refine lv_iconst (v := (0 : Int32)) hx hb dX1_isAtDigit_43 (by decide) ?_
        exact W.zret (v := (0 : Int32)) hx hb hr rfl (fw_er (mk := Value.int) h hP hS) hS.2.2 dX1_isAtDigit_44
      · rw [if_neg c3] at h
        refine lv_aload_n hx hb dX1_isAtDigit_25 rfl (lv_at hl 0 rfl) ?_
        refine va_get (D := fw_D E) (ci := 3) (v := .ref (fw_ad E 0 14)) (C := RX1) (T := TX1) (N := 5) hx hb hU inU1 hown hK (fw_at hP (fw_V0 (f := 13) (by decide) (by decide))) 0 rfl rfl 0 (by decide) (hU (Cond.fieldLink RX1 9 "LaundryService$CommandText" "characters" "[C") m_158) (fun _ h9 => h9) rfl dX1_isAtDigit_26 ?_
        refine lv_aload_n hx hb dX1_isAtDigit_29 rfl (lv_at hl 0 rfl) ?_
        refine va_get (D := fw_D E) (ci := 3) (v := .int (μ 0 13 2)) (C := RX1) (T := TX1) (N := 5) hx hb hU inU1 hown hK (fw_at hP (fw_V0 (f := 13) (by decide) (by decide))) 0 rfl rfl 2 (by decide) (hU (Cond.fieldLink RX1 19 "LaundryService$CommandText" "position" "I") m_161) (fun _ h9 => h9) rfl dX1_isAtDigit_30 ?_
        refine va_cald (D := fw_D E) hx hb hK (fw_at hP (fw_V0 (f := 14) (by decide) (by decide))) 0 2 rfl rfl (fw_in_e g2) dX1_isAtDigit_33 ?_
        refine lv_bipush (v := (57 : Int32)) hx hb dX1_isAtDigit_34 (by decide) ?_
        refine lv_icmp_gt (tgt := 43) hx hb dX1_isAtDigit_36 (by decide) (fun c4 => ?_) (fun c4 => ?_)
        · rw [if_pos c4] at h
          refine lv_iconst (v := (0 : Int32)) hx hb dX1_isAtDigit_43 (by decide) ?_
          exact W.zret (v := (0 : Int32)) hx hb hr rfl (fw_er (mk := Value.int) h hP hS) hS.2.2 dX1_isAtDigit_44
        · rw [if_neg c4] at h
          refine lv_iconst (v := (1 : Int32)) hx hb dX1_isAtDigit_39 (by decide) ?_
          refine lv_goto (tgt := 44) hx hb dX1_isAtDigit_40 (by decide) ?_
          exact W.zret (v := (1 : Int32)) hx hb hr rfl (fw_er (mk := Value.int) h hP hS) hS.2.2 dX1_isAtDigit_44
  subst ha
  have hl := lv_entry ([.ref (fw_ad E 0 13)]) (n := 1) (Nat.le_of_ble_eq_true rfl)
  rw [lg_entry_eq]
  generalize (lg_sl ([.ref (fw_ad E 0 13)]) ++ List.replicate (1 - (lg_sl ([.ref (fw_ad E 0 13)])).length) Slot.unset).toArray = ls at hl ⊢
  exact EN s.heap [] ls hP va_S.rf hl
set_option maxHeartbeats 4000000 in
set_option maxRecDepth 100000 in
theorem k_X1_readNumber (l : Launch) {E : fw_E} {o : Int64} {d : UInt64} (hE : fw_ok E) {μ μ' : fw_M} (x1 : Int32) {r : Int32} (h : f_X1_readNumber μ x1 = some (μ', r)) : Met l yX1_readNumber (fw_ws yX1_readNumber cX1_readNumber 4 (some .int)) ({ frames := 1, cells := 0, slots := 0, locals := 21 } : Room) (va_Pc [.ref (fw_ad E 0 13), .int x1] (fw_Pre E o d μ)) (fw_Q E o d (some (.int r)) μ') 0 0 (fw_A E) := by
  refine Met.ofW (cc := cX1_readNumber) (maxL := 4) (ret := (some .int)) (by decide) rfl ?_
  intro p e s m args below meth c s₁ B hml hv
  obtain ⟨ha, hK, hP, hSt⟩ := hv
  have hx := B.exec
  have hb := B.bytes
  have hr := B.returns
  have hts := atoms_spec (ws := fw_ws yX1_readNumber cX1_readNumber 4 (some .int)) B.pre
  have hU : ∀ w ∈ fw_U, w.before args s = true := fun w hw => hts w (List.mem_cons_of_mem _ hw)
  have hown : s.vm.findClass RX1 = some m.cls := findClass_of_methodNamed B.named
  have hlocks := B.notSynchronized
  have L28 : ∀ (n : Nat) (μ : fw_M) (x1 : Int32) (x2 : Int32) (x3 : Int32) (H : Heap) (locs : List Loc) (ls : Array Slot), f_X1_readNumber_L28 n μ x1 x2 x3 = some (μ', r) → fw_P E o d μ H → va_S (fw_A E) s.heap H locs → lv_has ls 4 [(0, .ref (fw_ad E 0 13)), (1, .int x1), (2, .int x2), (3, .int x3)] → W p l e (headSpec (fw_ws yX1_readNumber cX1_readNumber 4 (some .int)) ({ frames := 1, cells := 0, slots := 0, locals := 21 } : Room)).room s m args below meth c H locs 0 0 (MQ below (fw_Q E o d (some (.int r)) μ') args s 0 0 (fw_A E)) (F0 m 28 ls []) := by
    intro n28
    induction n28 with
    | zero => intro μ x1 x2 x3 H locs ls h; rw [f_X1_readNumber_L28] at h; cases h
    | succ n28 ih28 =>
      intro μ x1 x2 x3 H locs ls h hP hS hl
      rw [f_X1_readNumber_L28] at h
      refine lv_iload_n hx hb dX1_readNumber_28 rfl (lv_at hl 3 rfl) ?_
      refine lv_iload_n hx hb dX1_readNumber_29 rfl (lv_at hl 1 rfl) ?_
      refine lv_icmp_ge (tgt := 74) hx hb dX1_readNumber_30 (by decide) (fun c6 => ?_) (fun c6 => ?_)
      · rw [if_pos c6] at h
        refine lv_iload_n hx hb dX1_readNumber_74 rfl (lv_at hl 2 rfl) ?_
        exact W.iret (v := x2) hx hb hr (fw_ew (mk := Value.int) h hP hS) hS.2.2 dX1_readNumber_75
      · rw [if_neg c6] at h
        refine lv_aload_n hx hb dX1_readNumber_33 rfl (lv_at hl 0 rfl) ?_
        obtain ⟨r7, hc7, h⟩ := fw_b1_e h
        refine fw_ret (va_runV (As := []) (rest := []) ⟨hx, hb, hml, hown, hU⟩ (k_X1_isAtDigit l hE hc7) (cwV 0 hU (fw_gV m_1004 m_1005 m_1006 m_4 m_1007) rfl rfl rfl (by decide +kernel) ⟨(Nat.le_of_ble_eq_true rfl), (Nat.le_of_ble_eq_true rfl)⟩) ⟨fw_blind, fw_recv hK hP (fw_V0 (f := 13) (by decide) (by decide)) rfl rfl, fun U hU9 hW9 => ⟨rfl, fw_pre hK hP hSt hS U hU9 hW9⟩⟩ rfl rfl hl.1 rfl (lv_room (Nat.le_of_ble_eq_true rfl)) dX1_readNumber_34 ⟨Nat.zero_le _, Nat.zero_le _⟩) hS (fun H locs hP hS => ?_)
        refine lv_if_eq (tgt := 74) hx hb dX1_readNumber_37 (by decide) (fun c8 => ?_) (fun c8 => ?_)
        · rw [if_pos c8] at h
          refine lv_iload_n hx hb dX1_readNumber_74 rfl (lv_at hl 2 rfl) ?_
          exact W.iret (v := x2) hx hb hr (fw_ew (mk := Value.int) h hP hS) hS.2.2 dX1_readNumber_75
        · rw [if_neg c8] at h
          refine lv_bipush (v := (10 : Int32)) hx hb dX1_readNumber_40 (by decide) ?_
          refine lv_iload_n hx hb dX1_readNumber_42 rfl (lv_at hl 2 rfl) ?_
          refine lv_imul hx hb dX1_readNumber_43 ?_
          refine lv_aload_n hx hb dX1_readNumber_44 rfl (lv_at hl 0 rfl) ?_
          refine va_get (D := fw_D E) (ci := 3) (v := .ref (fw_ad E 0 14)) (C := RX1) (T := TX1) (N := 5) hx hb hU inU1 hown hK (fw_at hP (fw_V0 (f := 13) (by decide) (by decide))) 0 rfl rfl 0 (by decide) (hU (Cond.fieldLink RX1 9 "LaundryService$CommandText" "characters" "[C") m_158) (fun _ h9 => h9) rfl dX1_readNumber_45 ?_
          refine lv_aload_n hx hb dX1_readNumber_48 rfl (lv_at hl 0 rfl) ?_
          refine va_get (D := fw_D E) (ci := 3) (v := .int (μ 0 13 2)) (C := RX1) (T := TX1) (N := 5) hx hb hU inU1 hown hK (fw_at hP (fw_V0 (f := 13) (by decide) (by decide))) 0 rfl rfl 2 (by decide) (hU (Cond.fieldLink RX1 19 "LaundryService$CommandText" "position" "I") m_161) (fun _ h9 => h9) rfl dX1_readNumber_49 ?_
          obtain ⟨g9, h⟩ := fw_g_e h
          refine va_cald (D := fw_D E) hx hb hK (fw_at hP (fw_V0 (f := 14) (by decide) (by decide))) 0 2 rfl rfl (fw_in_e g9) dX1_readNumber_52 ?_
          refine lv_bipush (v := (48 : Int32)) hx hb dX1_readNumber_53 (by decide) ?_
          refine lv_isub hx hb dX1_readNumber_55 ?_
          refine lv_iadd hx hb dX1_readNumber_56 ?_
          refine lv_istore_n (lv' := [(2, .int (((10 : Int32) * x2) + ((μ 0 14 (μ 0 13 2).toNatClampNeg) - (48 : Int32)))), (0, .ref (fw_ad E 0 13)), (1, .int x1), (3, .int x3)]) hx hb dX1_readNumber_57 rfl hl (by decide) rfl (fun ls hl => ?_)
          refine lv_aload_n hx hb dX1_readNumber_58 rfl (lv_at hl 1 rfl) ?_
          refine lv_dup hx hb dX1_readNumber_59 rfl ?_
          refine va_get (D := fw_D E) (ci := 3) (v := .int (μ 0 13 2)) (C := RX1) (T := TX1) (N := 5) hx hb hU inU1 hown hK (fw_at hP (fw_V0 (f := 13) (by decide) (by decide))) 0 rfl rfl 2 (by decide) (hU (Cond.fieldLink RX1 19 "LaundryService$CommandText" "position" "I") m_161) (fun _ h9 => h9) rfl dX1_readNumber_60 ?_
          refine lv_iconst (v := (1 : Int32)) hx hb dX1_readNumber_63 (by decide) ?_
          refine lv_iadd hx hb dX1_readNumber_64 ?_
          refine fw_put (ci := 3) (v := .int ((μ 0 13 2) + (1 : Int32))) (ty := .int) (C := RX1) (T := TX1) (N := 5) hx hb hU inU1 tyX1 tyX1_ok nmX1 hown hK hP hE hS (fw_V0 (f := 13) (by decide) (by decide)) rfl rfl 2 (by decide) (hU (Cond.fieldLink RX1 19 "LaundryService$CommandText" "position" "I") m_161) (fun _ h9 => h9) rfl (by decide +kernel) rfl rfl (Nat.le_of_ble_eq_true rfl) 2 ((μ 0 13 2) + (1 : Int32)) (by rw [fw_u_c]; rfl) dX1_readNumber_65 (fun H locs hP hS => ?_)
          obtain ⟨μ10, eμ10, h⟩ := fw_l_e h
          rw [← eμ10] at hP
          refine lv_iinc (v := (x3 + (1 : Int32))) (lv' := [(3, .int (x3 + (1 : Int32))), (2, .int (((10 : Int32) * x2) + ((μ 0 14 (μ 0 13 2).toNatClampNeg) - (48 : Int32)))), (0, .ref (fw_ad E 0 13)), (1, .int x1)]) hx hb dX1_readNumber_68 hl (k := 3) rfl rfl (by decide) rfl (fun ls hl => ?_)
          refine lv_goto (tgt := 28) hx hb dX1_readNumber_71 (by decide) ?_
          exact ih28 μ10 x1 (((10 : Int32) * x2) + ((μ 0 14 (μ 0 13 2).toNatClampNeg) - (48 : Int32))) (x3 + (1 : Int32)) H locs ls h hP hS (lv_sub hl [2, 3, 1, 0] rfl)
  have EN : ∀ (H : Heap) (locs : List Loc) (ls : Array Slot), fw_P E o d μ H → va_S (fw_A E) s.heap H locs → lv_has ls 4 [(0, .ref (fw_ad E 0 13)), (1, .int x1)] → W p l e (headSpec (fw_ws yX1_readNumber cX1_readNumber 4 (some .int)) ({ frames := 1, cells := 0, slots := 0, locals := 21 } : Room)).room s m args below meth c H locs 0 0 (MQ below (fw_Q E o d (some (.int r)) μ') args s 0 0 (fw_A E)) (F0 m 0 ls []) := by
    intro H locs ls hP hS hl
    unfold f_X1_readNumber at h
    refine lv_iload_n hx hb dX1_readNumber_0 rfl (lv_at hl 1 rfl) ?_
    refine lv_if_ne (tgt := 6) hx hb dX1_readNumber_1 (by decide) (fun c1 => ?_) (fun c1 => ?_)
    · rw [if_neg c1] at h
      refine lv_aload_n hx hb dX1_readNumber_6 rfl (lv_at hl 0 rfl) ?_
      refine lv_bipush (v := (32 : Int32)) hx hb dX1_readNumber_7 (by decide) ?_
      obtain ⟨μ2, r2, hc2, h⟩ := fw_b2_e h
      refine fw_ret (va_runV (As := [.int (32 : Int32)]) (rest := []) ⟨hx, hb, hml, hown, hU⟩ (k_X1_accept l hE (32 : Int32) hc2) (cwV 1 hU (fw_gV m_1000 m_1001 m_1002 m_4 m_1003) rfl rfl rfl (by decide +kernel) ⟨(Nat.le_of_ble_eq_true rfl), (Nat.le_of_ble_eq_true rfl)⟩) ⟨fw_blind, fw_recv hK hP (fw_V0 (f := 13) (by decide) (by decide)) rfl rfl, fun U hU9 hW9 => ⟨rfl, fw_pre hK hP hSt hS U hU9 hW9⟩⟩ rfl rfl hl.1 rfl (lv_room (Nat.le_of_ble_eq_true rfl)) dX1_readNumber_9 ⟨Nat.zero_le _, Nat.zero_le _⟩) hS (fun H locs hP hS => ?_)
      refine lv_if_eq (tgt := 22) hx hb dX1_readNumber_12 (by decide) (fun c3 => ?_) (fun c3 => ?_)
      · rw [if_pos c3] at h
        refine lv_iconst (v := (-1 : Int32)) hx hb dX1_readNumber_22 (by decide) ?_
        exact W.iret (v := (-1 : Int32)) hx hb hr (fw_ew (mk := Value.int) h hP hS) hS.2.2 dX1_readNumber_23
      · rw [if_neg c3] at h
        refine lv_aload_n hx hb dX1_readNumber_15 rfl (lv_at hl 0 rfl) ?_
        obtain ⟨r4, hc4, h⟩ := fw_b1_e h
        refine fw_ret (va_runV (As := []) (rest := []) ⟨hx, hb, hml, hown, hU⟩ (k_X1_isAtDigit l hE hc4) (cwV 0 hU (fw_gV m_1004 m_1005 m_1006 m_4 m_1007) rfl rfl rfl (by decide +kernel) ⟨(Nat.le_of_ble_eq_true rfl), (Nat.le_of_ble_eq_true rfl)⟩) ⟨fw_blind, fw_recv hK hP (fw_V0 (f := 13) (by decide) (by decide)) rfl rfl, fun U hU9 hW9 => ⟨rfl, fw_pre hK hP hSt hS U hU9 hW9⟩⟩ rfl rfl hl.1 rfl (lv_room (Nat.le_of_ble_eq_true rfl)) dX1_readNumber_16 ⟨Nat.zero_le _, Nat.zero_le _⟩) hS (fun H locs hP hS => ?_)
        refine lv_if_ne (tgt := 24) hx hb dX1_readNumber_19 (by decide) (fun c5 => ?_) (fun c5 => ?_)
        · rw [if_neg c5] at h
          refine lv_iconst (v := (0 : Int32)) hx hb dX1_readNumber_24 (by decide) ?_
          refine lv_istore_n (lv' := [(2, .int (0 : Int32)), (0, .ref (fw_ad E 0 13)), (1, .int x1)]) hx hb dX1_readNumber_25 rfl hl (by decide) rfl (fun ls hl => ?_)
          refine lv_iconst (v := (0 : Int32)) hx hb dX1_readNumber_26 (by decide) ?_
          refine lv_istore_n (lv' := [(3, .int (0 : Int32)), (2, .int (0 : Int32)), (0, .ref (fw_ad E 0 13)), (1, .int x1)]) hx hb dX1_readNumber_27 rfl hl (by decide) rfl (fun ls hl => ?_)
          exact L28 1000 μ2 x1 (0 : Int32) (0 : Int32) H locs ls h hP hS (lv_sub hl [2, 3, 1, 0] rfl)
        · rw [if_pos c5] at h
          refine lv_iconst (v := (-1 : Int32)) hx hb dX1_readNumber_22 (by decide) ?_
          exact W.iret (v := (-1 : Int32)) hx hb hr (fw_ew (mk := Value.int) h hP hS) hS.2.2 dX1_readNumber_23
    · rw [if_pos c1] at h
      refine lv_iconst (v := (0 : Int32)) hx hb dX1_readNumber_4 (by decide) ?_
      exact W.iret (v := (0 : Int32)) hx hb hr (fw_ew (mk := Value.int) h hP hS) hS.2.2 dX1_readNumber_5
  subst ha
  have hl := lv_entry ([.ref (fw_ad E 0 13), .int x1]) (n := 4) (Nat.le_of_ble_eq_true rfl)
  rw [lg_entry_eq]
  generalize (lg_sl ([.ref (fw_ad E 0 13), .int x1]) ++ List.replicate (4 - (lg_sl ([.ref (fw_ad E 0 13), .int x1])).length) Slot.unset).toArray = ls at hl ⊢
  exact EN s.heap [] ls hP va_S.rf hl
set_option maxHeartbeats 4000000 in
set_option maxRecDepth 100000 in
theorem k_Jxf58ca_isNaN_12338 (l : Launch) {E : fw_E} {o : Int64} {d : UInt64} (hE : fw_ok E) {μ : fw_M} (x0 : UInt32) {r : Int32} (h : f_Jxf58ca_isNaN_12338 μ x0 = some r) : Met l yJxf58ca_isNaN_12338 (fw_ws yJxf58ca_isNaN_12338 cJxf58ca_isNaN_12338 1 (some .boolean)) ({ frames := 0, cells := 0, slots := 0, locals := 0 } : Room) (va_Pc [.float x0] (fw_Pre E o d μ)) (fw_Q E o d (some (.int r)) μ) 0 0 (fw_A E) := by
  refine fw_ofWF (cc := cJxf58ca_isNaN_12338) (maxL := 1) (ret := (some .boolean)) (by decide +kernel) rfl ?_
  intro p e s m args below meth c s₁ B hml hv
  obtain ⟨ha, hK, hP, hSt⟩ := hv
  have hx := B.exec
  have hb := B.bytes
  have hr := B.returns
  have hts := atoms_spec (ws := fw_ws yJxf58ca_isNaN_12338 cJxf58ca_isNaN_12338 1 (some .boolean)) B.pre
  have hU : ∀ w ∈ fw_U, w.before args s = true := fun w hw => hts w (List.mem_cons_of_mem _ hw)
  have hown : s.vm.findClass RJxf58ca = some m.cls := findClass_of_methodNamed B.named
  have hlocks := B.notSynchronized
  have EN : ∀ (H : Heap) (locs : List Loc) (ls : Array Slot), fw_P E o d μ H → va_S (fw_A E) s.heap H locs → lv_has ls 1 [(0, .float x0)] → W p l e (headSpec (fw_ws yJxf58ca_isNaN_12338 cJxf58ca_isNaN_12338 1 (some .boolean)) ({ frames := 0, cells := 0, slots := 0, locals := 0 } : Room)).room s m args below meth c H locs 0 0 (MQ below (fw_Q E o d (some (.int r)) μ) args s 0 0 (fw_A E)) (F0 m 0 ls []) := by
    intro H locs ls hP hS hl
    unfold f_Jxf58ca_isNaN_12338 at h
    refine lv_fload_n hx hb dJxf58ca_isNaN_12338_0 rfl (lv_at hl 0 rfl) ?_
    refine lv_fload_n hx hb dJxf58ca_isNaN_12338_1 rfl (lv_at hl 0 rfl) ?_
    refine lv_fcmp (op := CmpOp.l) hx hb dJxf58ca_isNaN_12338_2 ?_
    refine lv_if_eq (tgt := 10) hx hb dJxf58ca_isNaN_12338_3 (by decide) (fun c1 => ?_) (fun c1 => ?_)
    · rw [if_pos c1] at h
      refine lv_iconst (v := (0 : Int32)) hx hb dJxf58ca_isNaN_12338_10 (by decide) ?_
      exact W.zret (v := (0 : Int32)) hx hb hr rfl (fw_er (mk := Value.int) h hP hS) hS.2.2 dJxf58ca_isNaN_12338_11
    · rw [if_neg c1] at h
      refine lv_iconst (v := (1 : Int32)) hx hb dJxf58ca_isNaN_12338_6 (by decide) ?_
      refine lv_goto (tgt := 11) hx hb dJxf58ca_isNaN_12338_7 (by decide) ?_
      exact W.zret (v := (1 : Int32)) hx hb hr rfl (fw_er (mk := Value.int) h hP hS) hS.2.2 dJxf58ca_isNaN_12338_11
  subst ha
  have hl := lv_entry ([.float x0]) (n := 1) (Nat.le_of_ble_eq_true rfl)
  rw [lg_entry_eq]
  generalize (lg_sl ([.float x0]) ++ List.replicate (1 - (lg_sl ([.float x0])).length) Slot.unset).toArray = ls at hl ⊢
  exact EN s.heap [] ls hP va_S.rf hl
set_option maxHeartbeats 4000000 in
set_option maxRecDepth 100000 in
theorem k_Jxf58ca_floatToIntBits_5c35a (l : Launch) {E : fw_E} {o : Int64} {d : UInt64} (hE : fw_ok E) {μ : fw_M} (x0 : UInt32) {r : Int32} (h : f_Jxf58ca_floatToIntBits_5c35a μ x0 = some r) : Met l yJxf58ca_floatToIntBits_5c35a (fw_ws yJxf58ca_floatToIntBits_5c35a cJxf58ca_floatToIntBits_5c35a 1 (some .int)) ({ frames := 1, cells := 0, slots := 0, locals := 40 } : Room) (va_Pc [.float x0] (fw_Pre E o d μ)) (fw_Q E o d (some (.int r)) μ) 0 0 (fw_A E) := by
  refine fw_ofWF (cc := cJxf58ca_floatToIntBits_5c35a) (maxL := 1) (ret := (some .int)) (by decide +kernel) rfl ?_
  intro p e s m args below meth c s₁ B hml hv
  obtain ⟨ha, hK, hP, hSt⟩ := hv
  have hx := B.exec
  have hb := B.bytes
  have hr := B.returns
  have hts := atoms_spec (ws := fw_ws yJxf58ca_floatToIntBits_5c35a cJxf58ca_floatToIntBits_5c35a 1 (some .int)) B.pre
  have hU : ∀ w ∈ fw_U, w.before args s = true := fun w hw => hts w (List.mem_cons_of_mem _ hw)
  have hown : s.vm.findClass RJxf58ca = some m.cls := findClass_of_methodNamed B.named
  have hlocks := B.notSynchronized
  have EN : ∀ (H : Heap) (locs : List Loc) (ls : Array Slot), fw_P E o d μ H → va_S (fw_A E) s.heap H locs → lv_has ls 1 [(0, .float x0)] → W p l e (headSpec (fw_ws yJxf58ca_floatToIntBits_5c35a cJxf58ca_floatToIntBits_5c35a 1 (some .int)) ({ frames := 1, cells := 0, slots := 0, locals := 40 } : Room)).room s m args below meth c H locs 0 0 (MQ below (fw_Q E o d (some (.int r)) μ) args s 0 0 (fw_A E)) (F0 m 0 ls []) := by
    intro H locs ls hP hS hl
    unfold f_Jxf58ca_floatToIntBits_5c35a at h
    refine lv_fload_n hx hb dJxf58ca_floatToIntBits_5c35a_0 rfl (lv_at hl 0 rfl) ?_
    obtain ⟨r1, hc1, h⟩ := fw_b1_e h
    refine fw_ret (va_runS (As := [.float x0]) (rest := []) ⟨hx, hb, hml, hown, hU⟩ (k_Jxf58ca_isNaN_12338 l hE x0 hc1) (va_cwS 1 hU (fw_gS m_1296 m_1297 m_24 m_1298) rfl rfl rfl (by decide +kernel) ⟨(Nat.le_of_ble_eq_true rfl), (Nat.le_of_ble_eq_true rfl)⟩) ⟨fw_blind, fun U hU9 hW9 => ⟨rfl, fw_pre hK hP hSt hS U hU9 hW9⟩⟩ rfl rfl hl.1 rfl (lv_room (Nat.le_of_ble_eq_true rfl)) dJxf58ca_floatToIntBits_5c35a_1 ⟨Nat.zero_le _, Nat.zero_le _⟩) hS (fun H locs hP hS => ?_)
    refine lv_if_ne (tgt := 12) hx hb dJxf58ca_floatToIntBits_5c35a_4 (by decide) (fun c2 => ?_) (fun c2 => ?_)
    · rw [if_neg c2] at h
      refine lv_ldc (v := (2143289344 : Int32)) hx hb hown (hU (Cond.constant RJxf58ca 77 (2143289344 : Int32)) m_1302) dJxf58ca_floatToIntBits_5c35a_12 ?_
      exact W.iret (v := (2143289344 : Int32)) hx hb hr (fw_er (mk := Value.int) h hP hS) hS.2.2 dJxf58ca_floatToIntBits_5c35a_14
    · rw [if_pos c2] at h
      refine lv_fload_n hx hb dJxf58ca_floatToIntBits_5c35a_7 rfl (lv_at hl 0 rfl) ?_
      refine vn_f2i hx hb (hml.trans hl.1.symm) hown (hU (Cond.methodLink RJxf58ca 74 ⟨"java/lang/Float", "floatToRawIntBits", "(F)I"⟩) m_1299) (hU (Cond.native ⟨"java/lang/Float", "floatToRawIntBits", "(F)I"⟩) m_1301) (hU (Cond.static ⟨"java/lang/Float", "floatToRawIntBits", "(F)I"⟩) m_1300) (hU (Cond.initialized RJxf58ca) m_24) (Nat.le_of_ble_eq_true rfl) (Nat.le_of_ble_eq_true rfl) dJxf58ca_floatToIntBits_5c35a_8 ?_
      exact W.iret (v := x0.toInt32) hx hb hr (fw_er (mk := Value.int) h hP hS) hS.2.2 dJxf58ca_floatToIntBits_5c35a_11
  subst ha
  have hl := lv_entry ([.float x0]) (n := 1) (Nat.le_of_ble_eq_true rfl)
  rw [lg_entry_eq]
  generalize (lg_sl ([.float x0]) ++ List.replicate (1 - (lg_sl ([.float x0])).length) Slot.unset).toArray = ls at hl ⊢
  exact EN s.heap [] ls hP va_S.rf hl
