/-! contracts, laid by wip/whole/lay.py out of the bytecode listing -/
set_option maxHeartbeats 4000000 in
set_option maxRecDepth 100000 in
theorem k_X6_couldPair (l : Launch) {E : fw_E} {o : Int64} {d : UInt64} (hE : fw_ok E) {μ : fw_M} {j0 : Nat} (hj0 : j0 < 12) (x1 : Int32) (x2 : Int32) {r : Int32} (h : f_X6_couldPair μ j0 x1 x2 = some r) : Met l yX6_couldPair (fw_ws yX6_couldPair cX6_couldPair 3 (some .boolean)) ({ frames := 1, cells := 0, slots := 0, locals := 22 } : Room) (va_Pc [.ref (fw_ad E j0 0), .int x1, .int x2] (fw_Pre E o d μ)) (fw_Q E o d (some (.int r)) μ) 0 0 (fw_A E) := by
  refine Met.ofW (cc := cX6_couldPair) (maxL := 3) (ret := (some .boolean)) (by decide) rfl ?_
  intro p e s m args below meth c s₁ B hml hv
  obtain ⟨ha, hK, hP, hSt⟩ := hv
  have hx := B.exec
  have hb := B.bytes
  have hr := B.returns
  have hts := atoms_spec (ws := fw_ws yX6_couldPair cX6_couldPair 3 (some .boolean)) B.pre
  have hU : ∀ w ∈ fw_U, w.before args s = true := fun w hw => hts w (List.mem_cons_of_mem _ hw)
  have hown : s.vm.findClass RX6 = some m.cls := findClass_of_methodNamed B.named
  have hlocks := B.notSynchronized
  have EN : ∀ (H : Heap) (locs : List Loc) (ls : Array Slot), fw_P E o d μ H → va_S (fw_A E) s.heap H locs → lv_has ls 3 [(0, .ref (fw_ad E j0 0)), (1, .int x1), (2, .int x2)] → W p l e (headSpec (fw_ws yX6_couldPair cX6_couldPair 3 (some .boolean)) ({ frames := 1, cells := 0, slots := 0, locals := 22 } : Room)).room s m args below meth c H locs 0 0 (MQ below (fw_Q E o d (some (.int r)) μ) args s 0 0 (fw_A E)) (F0 m 0 ls []) := by
    intro H locs ls hP hS hl
    unfold f_X6_couldPair at h
    refine lv_aload_n hx hb dX6_couldPair_0 rfl (lv_at hl 0 rfl) ?_
    refine va_get (D := fw_D E) (ci := 6) (v := .ref (fw_ad E j0 2)) (C := RX7) (T := TX7) (N := 10) hx hb hU inU7 hown hK (fw_at hP (fw_Vs (f := 0) (by decide) hj0)) 0 rfl rfl 1 (by decide) (hU (Cond.fieldLink RX6 19 "LaundryService$State" "socks" "[Z") m_49) (fun _ h9 => h9) rfl dX6_couldPair_1 ?_
    refine lv_iload_n hx hb dX6_couldPair_4 rfl (lv_at hl 1 rfl) ?_
    obtain ⟨g1, h⟩ := fw_g_e h
    refine va_zald (D := fw_D E) hx hb hK (fw_at hP (fw_Vs (f := 2) (by decide) hj0)) 0 1 rfl rfl (fw_in_e g1) dX6_couldPair_5 ?_
    refine lv_if_eq (tgt := 42) hx hb dX6_couldPair_6 (by decide) (fun c2 => ?_) (fun c2 => ?_)
    · rw [if_pos c2] at h
      refine lv_iconst (v := (0 : Int32)) hx hb dX6_couldPair_42 (by decide) ?_
      exact W.zret (v := (0 : Int32)) hx hb hr rfl (fw_er (mk := Value.int) h hP hS) hS.2.2 dX6_couldPair_43
    · rw [if_neg c2] at h
      refine lv_aload_n hx hb dX6_couldPair_9 rfl (lv_at hl 0 rfl) ?_
      refine lv_iload_n hx hb dX6_couldPair_10 rfl (lv_at hl 1 rfl) ?_
      refine lv_aload_n hx hb dX6_couldPair_11 rfl (lv_at hl 0 rfl) ?_
      refine va_get (D := fw_D E) (ci := 6) (v := .ref (fw_ad E j0 1)) (C := RX7) (T := TX7) (N := 10) hx hb hU inU7 hown hK (fw_at hP (fw_Vs (f := 0) (by decide) hj0)) 0 rfl rfl 0 (by decide) (hU (Cond.fieldLink RX6 23 "LaundryService$State" "clients" "[I") m_46) (fun _ h9 => h9) rfl dX6_couldPair_12 ?_
      refine lv_iload_n hx hb dX6_couldPair_15 rfl (lv_at hl 2 rfl) ?_
      obtain ⟨g3, h⟩ := fw_g_e h
      refine va_iald (D := fw_D E) hx hb hK (fw_at hP (fw_Vs (f := 1) (by decide) hj0)) 0 0 rfl rfl (fw_in_e g3) dX6_couldPair_16 ?_
      obtain ⟨r4, hc4, h⟩ := fw_b1_e h
      refine fw_ret (va_runV (As := [.int x1, .int (μ j0 1 x2.toNatClampNeg)]) (rest := []) ⟨hx, hb, hml, hown, hU⟩ (k_X7_isInBagOf l hE hj0 x1 (μ j0 1 x2.toNatClampNeg) hc4) (cwV 2 hU (fw_gV m_313 m_314 m_315 m_2 m_316) rfl rfl rfl (by decide +kernel) ⟨(Nat.le_of_ble_eq_true rfl), (Nat.le_of_ble_eq_true rfl)⟩) ⟨fw_blind, fw_recv hK hP (fw_Vs (f := 0) (by decide) hj0) rfl rfl, fun U hU9 hW9 => ⟨rfl, fw_pre hK hP hSt hS U hU9 hW9⟩⟩ rfl rfl hl.1 rfl (lv_room (Nat.le_of_ble_eq_true rfl)) dX6_couldPair_17 ⟨Nat.zero_le _, Nat.zero_le _⟩) hS (fun H locs hP hS => ?_)
      refine lv_if_eq (tgt := 42) hx hb dX6_couldPair_20 (by decide) (fun c5 => ?_) (fun c5 => ?_)
      · rw [if_pos c5] at h
        refine lv_iconst (v := (0 : Int32)) hx hb dX6_couldPair_42 (by decide) ?_
        exact W.zret (v := (0 : Int32)) hx hb hr rfl (fw_er (mk := Value.int) h hP hS) hS.2.2 dX6_couldPair_43
      · rw [if_neg c5] at h
        refine lv_aload_n hx hb dX6_couldPair_23 rfl (lv_at hl 0 rfl) ?_
        refine va_get (D := fw_D E) (ci := 6) (v := .ref (fw_ad E j0 3)) (C := RX7) (T := TX7) (N := 10) hx hb hU inU7 hown hK (fw_at hP (fw_Vs (f := 0) (by decide) hj0)) 0 rfl rfl 2 (by decide) (hU (Cond.fieldLink RX6 31 "LaundryService$State" "colours" "[I") m_53) (fun _ h9 => h9) rfl dX6_couldPair_24 ?_
        refine lv_iload_n hx hb dX6_couldPair_27 rfl (lv_at hl 1 rfl) ?_
        refine va_iald (D := fw_D E) hx hb hK (fw_at hP (fw_Vs (f := 3) (by decide) hj0)) 0 0 rfl rfl (fw_in_e g1) dX6_couldPair_28 ?_
        refine lv_aload_n hx hb dX6_couldPair_29 rfl (lv_at hl 0 rfl) ?_
        refine va_get (D := fw_D E) (ci := 6) (v := .ref (fw_ad E j0 3)) (C := RX7) (T := TX7) (N := 10) hx hb hU inU7 hown hK (fw_at hP (fw_Vs (f := 0) (by decide) hj0)) 0 rfl rfl 2 (by decide) (hU (Cond.fieldLink RX6 31 "LaundryService$State" "colours" "[I") m_53) (fun _ h9 => h9) rfl dX6_couldPair_30 ?_
        refine lv_iload_n hx hb dX6_couldPair_33 rfl (lv_at hl 2 rfl) ?_
        refine va_iald (D := fw_D E) hx hb hK (fw_at hP (fw_Vs (f := 3) (by decide) hj0)) 0 0 rfl rfl (fw_in_e g3) dX6_couldPair_34 ?_
        refine lv_icmp_ne (tgt := 42) hx hb dX6_couldPair_35 (by decide) (fun c6 => ?_) (fun c6 => ?_)
        · rw [if_neg c6] at h
          refine lv_iconst (v := (0 : Int32)) hx hb dX6_couldPair_42 (by decide) ?_
          exact W.zret (v := (0 : Int32)) hx hb hr rfl (fw_er (mk := Value.int) h hP hS) hS.2.2 dX6_couldPair_43
        · rw [if_pos c6] at h
          refine lv_iconst (v := (1 : Int32)) hx hb dX6_couldPair_38 (by decide) ?_
          refine lv_goto (tgt := 43) hx hb dX6_couldPair_39 (by decide) ?_
          exact W.zret (v := (1 : Int32)) hx hb hr rfl (fw_er (mk := Value.int) h hP hS) hS.2.2 dX6_couldPair_43
  subst ha
  have hl := lv_entry ([.ref (fw_ad E j0 0), .int x1, .int x2]) (n := 3) (Nat.le_of_ble_eq_true rfl)
  rw [lg_entry_eq]
  generalize (lg_sl ([.ref (fw_ad E j0 0), .int x1, .int x2]) ++ List.replicate (3 - (lg_sl ([.ref (fw_ad E j0 0), .int x1, .int x2])).length) Slot.unset).toArray = ls at hl ⊢
  exact EN s.heap [] ls hP va_S.rf hl
set_option maxHeartbeats 4000000 in
set_option maxRecDepth 100000 in
theorem k_X6_otherSock (l : Launch) {E : fw_E} {o : Int64} {d : UInt64} (hE : fw_ok E) {μ : fw_M} {j0 : Nat} (hj0 : j0 < 12) (x1 : Int32) {r : Int32} (h : f_X6_otherSock μ j0 x1 = some r) : Met l yX6_otherSock (fw_ws yX6_otherSock cX6_otherSock 4 (some .int)) ({ frames := 2, cells := 0, slots := 0, locals := 44 } : Room) (va_Pc [.ref (fw_ad E j0 0), .int x1] (fw_Pre E o d μ)) (fw_Q E o d (some (.int r)) μ) 0 0 (fw_A E) := by
  refine Met.ofW (cc := cX6_otherSock) (maxL := 4) (ret := (some .int)) (by decide) rfl ?_
  intro p e s m args below meth c s₁ B hml hv
  obtain ⟨ha, hK, hP, hSt⟩ := hv
  have hx := B.exec
  have hb := B.bytes
  have hr := B.returns
  have hts := atoms_spec (ws := fw_ws yX6_otherSock cX6_otherSock 4 (some .int)) B.pre
  have hU : ∀ w ∈ fw_U, w.before args s = true := fun w hw => hts w (List.mem_cons_of_mem _ hw)
  have hown : s.vm.findClass RX6 = some m.cls := findClass_of_methodNamed B.named
  have hlocks := B.notSynchronized
  have L4 : ∀ (n : Nat) (x1 : Int32) (x2 : Int32) (x3 : Int32) (H : Heap) (locs : List Loc) (ls : Array Slot), f_X6_otherSock_L4 μ j0 n x1 x2 x3 = some r → fw_P E o d μ H → va_S (fw_A E) s.heap H locs → lv_has ls 4 [(0, .ref (fw_ad E j0 0)), (1, .int x1), (2, .int x2), (3, .int x3)] → W p l e (headSpec (fw_ws yX6_otherSock cX6_otherSock 4 (some .int)) ({ frames := 2, cells := 0, slots := 0, locals := 44 } : Room)).room s m args below meth c H locs 0 0 (MQ below (fw_Q E o d (some (.int r)) μ) args s 0 0 (fw_A E)) (F0 m 4 ls []) := by
    intro n4
    induction n4 with
    | zero => intro x1 x2 x3 H locs ls h; rw [f_X6_otherSock_L4] at h; cases h
    | succ n4 ih4 =>
      intro x1 x2 x3 H locs ls h hP hS hl
      rw [f_X6_otherSock_L4] at h
      refine lv_iload_n hx hb dX6_otherSock_4 rfl (lv_at hl 3 rfl) ?_
      refine lv_aload_n hx hb dX6_otherSock_5 rfl (lv_at hl 0 rfl) ?_
      refine va_get (D := fw_D E) (ci := 6) (v := .int (μ j0 0 6)) (C := RX7) (T := TX7) (N := 10) hx hb hU inU7 hown hK (fw_at hP (fw_Vs (f := 0) (by decide) hj0)) 0 rfl rfl 6 (by decide) (hU (Cond.fieldLink RX6 7 "LaundryService$State" "garmentCount" "I") m_66) (fun _ h9 => h9) rfl dX6_otherSock_6 ?_
      refine lv_icmp_ge (tgt := 52) hx hb dX6_otherSock_9 (by decide) (fun c1 => ?_) (fun c1 => ?_)
      · rw [if_pos c1] at h
        refine lv_iconst (v := (-1 : Int32)) hx hb dX6_otherSock_52 (by decide) ?_
        exact W.iret (v := (-1 : Int32)) hx hb hr (fw_er (mk := Value.int) h hP hS) hS.2.2 dX6_otherSock_53
      · rw [if_neg c1] at h
        refine lv_aload_n hx hb dX6_otherSock_12 rfl (lv_at hl 0 rfl) ?_
        refine lv_iload_n hx hb dX6_otherSock_13 rfl (lv_at hl 3 rfl) ?_
        refine lv_iload_n hx hb dX6_otherSock_14 rfl (lv_at hl 1 rfl) ?_
        obtain ⟨r2, hc2, h⟩ := fw_b1_e h
        refine fw_ret (va_runS (As := [.ref (fw_ad E j0 0), .int x3, .int x1]) (rest := []) ⟨hx, hb, hml, hown, hU⟩ (k_X6_couldPair l hE hj0 x3 x1 hc2) (va_cwS 3 hU (fw_gS m_320 m_321 m_28 m_322) rfl rfl rfl (by decide +kernel) ⟨(Nat.le_of_ble_eq_true rfl), (Nat.le_of_ble_eq_true rfl)⟩) ⟨fw_blind, fun U hU9 hW9 => ⟨rfl, fw_pre hK hP hSt hS U hU9 hW9⟩⟩ rfl rfl hl.1 rfl (lv_room (Nat.le_of_ble_eq_true rfl)) dX6_otherSock_15 ⟨Nat.zero_le _, Nat.zero_le _⟩) hS (fun H locs hP hS => ?_)
        refine lv_if_eq (tgt := 46) hx hb dX6_otherSock_18 (by decide) (fun c3 => ?_) (fun c3 => ?_)
        · rw [if_pos c3] at h
          refine lv_iinc (v := (x3 + (1 : Int32))) (lv' := [(3, .int (x3 + (1 : Int32))), (0, .ref (fw_ad E j0 0)), (1, .int x1), (2, .int x2)]) hx hb dX6_otherSock_46 hl (k := 3) rfl rfl (by decide) rfl (fun ls hl => ?_)
          refine lv_goto (tgt := 4) hx hb dX6_otherSock_49 (by decide) ?_
          exact ih4 x1 x2 (x3 + (1 : Int32)) H locs ls h hP hS (lv_sub hl [1, 2, 3, 0] rfl)
        · rw [if_neg c3] at h
          refine lv_iload_n hx hb dX6_otherSock_21 rfl (lv_at hl 2 rfl) ?_
          refine lv_if_ge (tgt := 30) hx hb dX6_otherSock_22 (by decide) (fun c4 => ?_) (fun c4 => ?_)
          · rw [if_pos c4] at h
            refine lv_iload_n hx hb dX6_otherSock_30 rfl (lv_at hl 2 rfl) ?_
            refine lv_iload_n hx hb dX6_otherSock_31 rfl (lv_at hl 1 rfl) ?_
            refine lv_icmp_ne (tgt := 37) hx hb dX6_otherSock_32 (by decide) (fun c5 => ?_) (fun c5 => ?_)
            · rw [if_neg c5] at h
              refine lv_iload_n hx hb dX6_otherSock_37 rfl (lv_at hl 3 rfl) ?_
              refine lv_iload_n hx hb dX6_otherSock_38 rfl (lv_at hl 1 rfl) ?_
              refine lv_icmp_ne (tgt := 44) hx hb dX6_otherSock_39 (by decide) (fun c6 => ?_) (fun c6 => ?_)
              · rw [if_neg c6] at h
                refine lv_iconst (v := (-1 : Int32)) hx hb dX6_otherSock_44 (by decide) ?_
                refine lv_istore_n (lv' := [(2, .int (-1 : Int32)), (0, .ref (fw_ad E j0 0)), (1, .int x1), (3, .int x3)]) hx hb dX6_otherSock_45 rfl hl (by decide) rfl (fun ls hl => ?_)
                refine lv_iinc (v := (x3 + (1 : Int32))) (lv' := [(3, .int (x3 + (1 : Int32))), (2, .int (-1 : Int32)), (0, .ref (fw_ad E j0 0)), (1, .int x1)]) hx hb dX6_otherSock_46 hl (k := 3) rfl rfl (by decide) rfl (fun ls hl => ?_)
                refine lv_goto (tgt := 4) hx hb dX6_otherSock_49 (by decide) ?_
                exact ih4 x1 (-1 : Int32) (x3 + (1 : Int32)) H locs ls h hP hS (lv_sub hl [2, 3, 1, 0] rfl)
              · rw [if_pos c6] at h
                refine lv_iload_n hx hb dX6_otherSock_42 rfl (lv_at hl 2 rfl) ?_
                exact W.iret (v := x2) hx hb hr (fw_er (mk := Value.int) h hP hS) hS.2.2 dX6_otherSock_43
            · rw [if_pos c5] at h
              refine lv_iload_n hx hb dX6_otherSock_35 rfl (lv_at hl 3 rfl) ?_
              exact W.iret (v := x3) hx hb hr (fw_er (mk := Value.int) h hP hS) hS.2.2 dX6_otherSock_36
          · rw [if_neg c4] at h
            refine lv_iload_n hx hb dX6_otherSock_25 rfl (lv_at hl 3 rfl) ?_
            refine lv_istore_n (lv' := [(2, .int x3), (0, .ref (fw_ad E j0 0)), (1, .int x1), (3, .int x3)]) hx hb dX6_otherSock_26 rfl hl (by decide) rfl (fun ls hl => ?_)
            refine lv_goto (tgt := 46) hx hb dX6_otherSock_27 (by decide) ?_
            refine lv_iinc (v := (x3 + (1 : Int32))) (lv' := [(3, .int (x3 + (1 : Int32))), (2, .int x3), (0, .ref (fw_ad E j0 0)), (1, .int x1)]) hx hb dX6_otherSock_46 hl (k := 3) rfl rfl (by decide) rfl (fun ls hl => ?_)
            refine lv_goto (tgt := 4) hx hb dX6_otherSock_49 (by decide) ?_
            exact ih4 x1 x3 (x3 + (1 : Int32)) H locs ls h hP hS (lv_sub hl [2, 3, 1, 0] rfl)
  have EN : ∀ (H : Heap) (locs : List Loc) (ls : Array Slot), fw_P E o d μ H → va_S (fw_A E) s.heap H locs → lv_has ls 4 [(0, .ref (fw_ad E j0 0)), (1, .int x1)] → W p l e (headSpec (fw_ws yX6_otherSock cX6_otherSock 4 (some .int)) ({ frames := 2, cells := 0, slots := 0, locals := 44 } : Room)).room s m args below meth c H locs 0 0 (MQ below (fw_Q E o d (some (.int r)) μ) args s 0 0 (fw_A E)) (F0 m 0 ls []) := by
    intro H locs ls hP hS hl
    unfold f_X6_otherSock at h
    refine lv_iconst (v := (-1 : Int32)) hx hb dX6_otherSock_0 (by decide) ?_
    refine lv_istore_n (lv' := [(2, .int (-1 : Int32)), (0, .ref (fw_ad E j0 0)), (1, .int x1)]) hx hb dX6_otherSock_1 rfl hl (by decide) rfl (fun ls hl => ?_)
    refine lv_iconst (v := (0 : Int32)) hx hb dX6_otherSock_2 (by decide) ?_
    refine lv_istore_n (lv' := [(3, .int (0 : Int32)), (2, .int (-1 : Int32)), (0, .ref (fw_ad E j0 0)), (1, .int x1)]) hx hb dX6_otherSock_3 rfl hl (by decide) rfl (fun ls hl => ?_)
    exact L4 1000 x1 (-1 : Int32) (0 : Int32) H locs ls h hP hS (lv_sub hl [2, 3, 1, 0] rfl)
  subst ha
  have hl := lv_entry ([.ref (fw_ad E j0 0), .int x1]) (n := 4) (Nat.le_of_ble_eq_true rfl)
  rw [lg_entry_eq]
  generalize (lg_sl ([.ref (fw_ad E j0 0), .int x1]) ++ List.replicate (4 - (lg_sl ([.ref (fw_ad E j0 0), .int x1])).length) Slot.unset).toArray = ls at hl ⊢
  exact EN s.heap [] ls hP va_S.rf hl
set_option maxHeartbeats 4000000 in
set_option maxRecDepth 100000 in
theorem k_X6_formed (l : Launch) {E : fw_E} {o : Int64} {d : UInt64} (hE : fw_ok E) {μ : fw_M} {j0 : Nat} (hj0 : j0 < 12) (x1 : Int32) {r : Int32} (h : f_X6_formed μ j0 x1 = some r) : Met l yX6_formed (fw_ws yX6_formed cX6_formed 4 (some .int)) ({ frames := 3, cells := 0, slots := 0, locals := 67 } : Room) (va_Pc [.ref (fw_ad E j0 0), .int x1] (fw_Pre E o d μ)) (fw_Q E o d (some (.int r)) μ) 0 0 (fw_A E) := by
  refine Met.ofW (cc := cX6_formed) (maxL := 4) (ret := (some .int)) (by decide) rfl ?_
  intro p e s m args below meth c s₁ B hml hv
  obtain ⟨ha, hK, hP, hSt⟩ := hv
  have hx := B.exec
  have hb := B.bytes
  have hr := B.returns
  have hts := atoms_spec (ws := fw_ws yX6_formed cX6_formed 4 (some .int)) B.pre
  have hU : ∀ w ∈ fw_U, w.before args s = true := fun w hw => hts w (List.mem_cons_of_mem _ hw)
  have hown : s.vm.findClass RX6 = some m.cls := findClass_of_methodNamed B.named
  have hlocks := B.notSynchronized
  have L4 : ∀ (n : Nat) (x1 : Int32) (x2 : Int32) (x3 : Int32) (H : Heap) (locs : List Loc) (ls : Array Slot), f_X6_formed_L4 μ j0 n x1 x2 x3 = some r → fw_P E o d μ H → va_S (fw_A E) s.heap H locs → lv_has ls 4 [(0, .ref (fw_ad E j0 0)), (1, .int x1), (2, .int x2), (3, .int x3)] → W p l e (headSpec (fw_ws yX6_formed cX6_formed 4 (some .int)) ({ frames := 3, cells := 0, slots := 0, locals := 67 } : Room)).room s m args below meth c H locs 0 0 (MQ below (fw_Q E o d (some (.int r)) μ) args s 0 0 (fw_A E)) (F0 m 4 ls []) := by
    intro n4
    induction n4 with
    | zero => intro x1 x2 x3 H locs ls h; rw [f_X6_formed_L4] at h; cases h
    | succ n4 ih4 =>
      intro x1 x2 x3 H locs ls h hP hS hl
      rw [f_X6_formed_L4] at h
      refine lv_iload_n hx hb dX6_formed_4 rfl (lv_at hl 3 rfl) ?_
      refine lv_aload_n hx hb dX6_formed_5 rfl (lv_at hl 0 rfl) ?_
      refine va_get (D := fw_D E) (ci := 6) (v := .int (μ j0 0 6)) (C := RX7) (T := TX7) (N := 10) hx hb hU inU7 hown hK (fw_at hP (fw_Vs (f := 0) (by decide) hj0)) 0 rfl rfl 6 (by decide) (hU (Cond.fieldLink RX6 7 "LaundryService$State" "garmentCount" "I") m_66) (fun _ h9 => h9) rfl dX6_formed_6 ?_
      refine lv_icmp_ge (tgt := 48) hx hb dX6_formed_9 (by decide) (fun c1 => ?_) (fun c1 => ?_)
      · rw [if_pos c1] at h
        refine lv_iload_n hx hb dX6_formed_48 rfl (lv_at hl 2 rfl) ?_
        exact W.iret (v := x2) hx hb hr (fw_er (mk := Value.int) h hP hS) hS.2.2 dX6_formed_49
      · rw [if_neg c1] at h
        refine lv_aload_n hx hb dX6_formed_12 rfl (lv_at hl 0 rfl) ?_
        refine va_get (D := fw_D E) (ci := 6) (v := .ref (fw_ad E j0 2)) (C := RX7) (T := TX7) (N := 10) hx hb hU inU7 hown hK (fw_at hP (fw_Vs (f := 0) (by decide) hj0)) 0 rfl rfl 1 (by decide) (hU (Cond.fieldLink RX6 19 "LaundryService$State" "socks" "[Z") m_49) (fun _ h9 => h9) rfl dX6_formed_13 ?_
        refine lv_iload_n hx hb dX6_formed_16 rfl (lv_at hl 3 rfl) ?_
        obtain ⟨g2, h⟩ := fw_g_e h
        refine va_zald (D := fw_D E) hx hb hK (fw_at hP (fw_Vs (f := 2) (by decide) hj0)) 0 1 rfl rfl (fw_in_e g2) dX6_formed_17 ?_
        refine lv_if_eq (tgt := 42) hx hb dX6_formed_18 (by decide) (fun c3 => ?_) (fun c3 => ?_)
        · rw [if_pos c3] at h
          refine lv_iinc (v := (x3 + (1 : Int32))) (lv' := [(3, .int (x3 + (1 : Int32))), (0, .ref (fw_ad E j0 0)), (1, .int x1), (2, .int x2)]) hx hb dX6_formed_42 hl (k := 3) rfl rfl (by decide) rfl (fun ls hl => ?_)
          refine lv_goto (tgt := 4) hx hb dX6_formed_45 (by decide) ?_
          exact ih4 x1 x2 (x3 + (1 : Int32)) H locs ls h hP hS (lv_sub hl [1, 2, 3, 0] rfl)
        · rw [if_neg c3] at h
          refine lv_aload_n hx hb dX6_formed_21 rfl (lv_at hl 0 rfl) ?_
          refine lv_iload_n hx hb dX6_formed_22 rfl (lv_at hl 3 rfl) ?_
          refine lv_iload_n hx hb dX6_formed_23 rfl (lv_at hl 1 rfl) ?_
          obtain ⟨r4, hc4, h⟩ := fw_b1_e h
          refine fw_ret (va_runV (As := [.int x3, .int x1]) (rest := []) ⟨hx, hb, hml, hown, hU⟩ (k_X7_isInBagOf l hE hj0 x3 x1 hc4) (cwV 2 hU (fw_gV m_313 m_314 m_315 m_2 m_316) rfl rfl rfl (by decide +kernel) ⟨(Nat.le_of_ble_eq_true rfl), (Nat.le_of_ble_eq_true rfl)⟩) ⟨fw_blind, fw_recv hK hP (fw_Vs (f := 0) (by decide) hj0) rfl rfl, fun U hU9 hW9 => ⟨rfl, fw_pre hK hP hSt hS U hU9 hW9⟩⟩ rfl rfl hl.1 rfl (lv_room (Nat.le_of_ble_eq_true rfl)) dX6_formed_24 ⟨Nat.zero_le _, Nat.zero_le _⟩) hS (fun H locs hP hS => ?_)
          refine lv_if_eq (tgt := 42) hx hb dX6_formed_27 (by decide) (fun c5 => ?_) (fun c5 => ?_)
          · rw [if_pos c5] at h
            refine lv_iinc (v := (x3 + (1 : Int32))) (lv' := [(3, .int (x3 + (1 : Int32))), (0, .ref (fw_ad E j0 0)), (1, .int x1), (2, .int x2)]) hx hb dX6_formed_42 hl (k := 3) rfl rfl (by decide) rfl (fun ls hl => ?_)
            refine lv_goto (tgt := 4) hx hb dX6_formed_45 (by decide) ?_
            exact ih4 x1 x2 (x3 + (1 : Int32)) H locs ls h hP hS (lv_sub hl [1, 2, 3, 0] rfl)
          · rw [if_neg c5] at h
            refine lv_aload_n hx hb dX6_formed_30 rfl (lv_at hl 0 rfl) ?_
            refine lv_iload_n hx hb dX6_formed_31 rfl (lv_at hl 3 rfl) ?_
            obtain ⟨r6, hc6, h⟩ := fw_b1_e h
            refine fw_ret (va_runS (As := [.ref (fw_ad E j0 0), .int x3]) (rest := []) ⟨hx, hb, hml, hown, hU⟩ (k_X6_otherSock l hE hj0 x3 hc6) (va_cwS 2 hU (fw_gS m_317 m_318 m_28 m_319) rfl rfl rfl (by decide +kernel) ⟨(Nat.le_of_ble_eq_true rfl), (Nat.le_of_ble_eq_true rfl)⟩) ⟨fw_blind, fun U hU9 hW9 => ⟨rfl, fw_pre hK hP hSt hS U hU9 hW9⟩⟩ rfl rfl hl.1 rfl (lv_room (Nat.le_of_ble_eq_true rfl)) dX6_formed_32 ⟨Nat.zero_le _, Nat.zero_le _⟩) hS (fun H locs hP hS => ?_)
            refine lv_iload_n hx hb dX6_formed_35 rfl (lv_at hl 3 rfl) ?_
            refine lv_icmp_le (tgt := 42) hx hb dX6_formed_36 (by decide) (fun c7 => ?_) (fun c7 => ?_)
            · rw [if_pos c7] at h
              refine lv_iinc (v := (x3 + (1 : Int32))) (lv' := [(3, .int (x3 + (1 : Int32))), (0, .ref (fw_ad E j0 0)), (1, .int x1), (2, .int x2)]) hx hb dX6_formed_42 hl (k := 3) rfl rfl (by decide) rfl (fun ls hl => ?_)
              refine lv_goto (tgt := 4) hx hb dX6_formed_45 (by decide) ?_
              exact ih4 x1 x2 (x3 + (1 : Int32)) H locs ls h hP hS (lv_sub hl [1, 2, 3, 0] rfl)
            · rw [if_neg c7] at h
              refine lv_iinc (v := (x2 + (1 : Int32))) (lv' := [(2, .int (x2 + (1 : Int32))), (0, .ref (fw_ad E j0 0)), (1, .int x1), (3, .int x3)]) hx hb dX6_formed_39 hl (k := 2) rfl rfl (by decide) rfl (fun ls hl => ?_)
              refine lv_iinc (v := (x3 + (1 : Int32))) (lv' := [(3, .int (x3 + (1 : Int32))), (2, .int (x2 + (1 : Int32))), (0, .ref (fw_ad E j0 0)), (1, .int x1)]) hx hb dX6_formed_42 hl (k := 3) rfl rfl (by decide) rfl (fun ls hl => ?_)
              refine lv_goto (tgt := 4) hx hb dX6_formed_45 (by decide) ?_
              exact ih4 x1 (x2 + (1 : Int32)) (x3 + (1 : Int32)) H locs ls h hP hS (lv_sub hl [2, 3, 1, 0] rfl)
  have EN : ∀ (H : Heap) (locs : List Loc) (ls : Array Slot), fw_P E o d μ H → va_S (fw_A E) s.heap H locs → lv_has ls 4 [(0, .ref (fw_ad E j0 0)), (1, .int x1)] → W p l e (headSpec (fw_ws yX6_formed cX6_formed 4 (some .int)) ({ frames := 3, cells := 0, slots := 0, locals := 67 } : Room)).room s m args below meth c H locs 0 0 (MQ below (fw_Q E o d (some (.int r)) μ) args s 0 0 (fw_A E)) (F0 m 0 ls []) := by
    intro H locs ls hP hS hl
    unfold f_X6_formed at h
    refine lv_iconst (v := (0 : Int32)) hx hb dX6_formed_0 (by decide) ?_
    refine lv_istore_n (lv' := [(2, .int (0 : Int32)), (0, .ref (fw_ad E j0 0)), (1, .int x1)]) hx hb dX6_formed_1 rfl hl (by decide) rfl (fun ls hl => ?_)
    refine lv_iconst (v := (0 : Int32)) hx hb dX6_formed_2 (by decide) ?_
    refine lv_istore_n (lv' := [(3, .int (0 : Int32)), (2, .int (0 : Int32)), (0, .ref (fw_ad E j0 0)), (1, .int x1)]) hx hb dX6_formed_3 rfl hl (by decide) rfl (fun ls hl => ?_)
    exact L4 1000 x1 (0 : Int32) (0 : Int32) H locs ls h hP hS (lv_sub hl [2, 3, 1, 0] rfl)
  subst ha
  have hl := lv_entry ([.ref (fw_ad E j0 0), .int x1]) (n := 4) (Nat.le_of_ble_eq_true rfl)
  rw [lg_entry_eq]
  generalize (lg_sl ([.ref (fw_ad E j0 0), .int x1]) ++ List.replicate (4 - (lg_sl ([.ref (fw_ad E j0 0), .int x1])).length) Slot.unset).toArray = ls at hl ⊢
  exact EN s.heap [] ls hP va_S.rf hl
set_option maxHeartbeats 4000000 in
set_option maxRecDepth 100000 in
theorem k_X6_byParity (l : Launch) {E : fw_E} {o : Int64} {d : UInt64} (hE : fw_ok E) {μ : fw_M} {j0 : Nat} (hj0 : j0 < 12) (x1 : Int32) {r : Int32} (h : f_X6_byParity μ j0 x1 = some r) : Met l yX6_byParity (fw_ws yX6_byParity cX6_byParity 5 (some .int)) ({ frames := 1, cells := 0, slots := 0, locals := 22 } : Room) (va_Pc [.ref (fw_ad E j0 0), .int x1] (fw_Pre E o d μ)) (fw_Q E o d (some (.int r)) μ) 0 0 (fw_A E) := by
  refine Met.ofW (cc := cX6_byParity) (maxL := 5) (ret := (some .int)) (by decide) rfl ?_
  intro p e s m args below meth c s₁ B hml hv
  obtain ⟨ha, hK, hP, hSt⟩ := hv
  have hx := B.exec
  have hb := B.bytes
  have hr := B.returns
  have hts := atoms_spec (ws := fw_ws yX6_byParity cX6_byParity 5 (some .int)) B.pre
  have hU : ∀ w ∈ fw_U, w.before args s = true := fun w hw => hts w (List.mem_cons_of_mem _ hw)
  have hown : s.vm.findClass RX6 = some m.cls := findClass_of_methodNamed B.named
  have hlocks := B.notSynchronized
  have L7 : ∀ (n : Nat) (x1 : Int32) (x2 : Int32) (x3 : Int32) (x4 : Int32) (H : Heap) (locs : List Loc) (ls : Array Slot), f_X6_byParity_L7 μ j0 n x1 x2 x3 x4 = some r → fw_P E o d μ H → va_S (fw_A E) s.heap H locs → lv_has ls 5 [(0, .ref (fw_ad E j0 0)), (1, .int x1), (2, .int x2), (3, .int x3), (4, .int x4)] → W p l e (headSpec (fw_ws yX6_byParity cX6_byParity 5 (some .int)) ({ frames := 1, cells := 0, slots := 0, locals := 22 } : Room)).room s m args below meth c H locs 0 0 (MQ below (fw_Q E o d (some (.int r)) μ) args s 0 0 (fw_A E)) (F0 m 7 ls []) := by
    intro n7
    induction n7 with
    | zero => intro x1 x2 x3 x4 H locs ls h; rw [f_X6_byParity_L7] at h; cases h
    | succ n7 ih7 =>
      intro x1 x2 x3 x4 H locs ls h hP hS hl
      rw [f_X6_byParity_L7] at h
      refine lv_iload hx hb dX6_byParity_7 (lv_at hl 4 rfl) ?_
      refine lv_aload_n hx hb dX6_byParity_9 rfl (lv_at hl 0 rfl) ?_
      refine va_get (D := fw_D E) (ci := 6) (v := .int (μ j0 0 6)) (C := RX7) (T := TX7) (N := 10) hx hb hU inU7 hown hK (fw_at hP (fw_Vs (f := 0) (by decide) hj0)) 0 rfl rfl 6 (by decide) (hU (Cond.fieldLink RX6 7 "LaundryService$State" "garmentCount" "I") m_66) (fun _ h9 => h9) rfl dX6_byParity_10 ?_
      refine lv_icmp_ge (tgt := 57) hx hb dX6_byParity_13 (by decide) (fun c1 => ?_) (fun c1 => ?_)
      · rw [if_pos c1] at h
        refine lv_iload_n hx hb dX6_byParity_57 rfl (lv_at hl 2 rfl) ?_
        refine lv_iload_n hx hb dX6_byParity_58 rfl (lv_at hl 3 rfl) ?_
        obtain ⟨r2, hc2, h⟩ := fw_b1_e h
        refine fw_ret (va_runS (As := [.int x3]) (rest := [.int x2]) ⟨hx, hb, hml, hown, hU⟩ (k_J6_bitCount_0f7a4 l hE x3 hc2) (va_cwS 1 hU (fw_gS m_326 m_268 m_22 m_269) rfl rfl rfl (by decide +kernel) ⟨(Nat.le_of_ble_eq_true rfl), (Nat.le_of_ble_eq_true rfl)⟩) ⟨fw_blind, fun U hU9 hW9 => ⟨rfl, fw_pre hK hP hSt hS U hU9 hW9⟩⟩ rfl rfl hl.1 rfl (lv_room (Nat.le_of_ble_eq_true rfl)) dX6_byParity_59 ⟨Nat.zero_le _, Nat.zero_le _⟩) hS (fun H locs hP hS => ?_)
        refine lv_isub hx hb dX6_byParity_62 ?_
        refine lv_iconst (v := (2 : Int32)) hx hb dX6_byParity_63 (by decide) ?_
        refine lv_idiv hx hb dX6_byParity_64 (by decide) ?_
        exact W.iret (v := ((x2 - r2) / (2 : Int32))) hx hb hr (fw_er (mk := Value.int) h hP hS) hS.2.2 dX6_byParity_65
      · rw [if_neg c1] at h
        refine lv_aload_n hx hb dX6_byParity_16 rfl (lv_at hl 0 rfl) ?_
        refine va_get (D := fw_D E) (ci := 6) (v := .ref (fw_ad E j0 2)) (C := RX7) (T := TX7) (N := 10) hx hb hU inU7 hown hK (fw_at hP (fw_Vs (f := 0) (by decide) hj0)) 0 rfl rfl 1 (by decide) (hU (Cond.fieldLink RX6 19 "LaundryService$State" "socks" "[Z") m_49) (fun _ h9 => h9) rfl dX6_byParity_17 ?_
        refine lv_iload hx hb dX6_byParity_20 (lv_at hl 4 rfl) ?_
        obtain ⟨g3, h⟩ := fw_g_e h
        refine va_zald (D := fw_D E) hx hb hK (fw_at hP (fw_Vs (f := 2) (by decide) hj0)) 0 1 rfl rfl (fw_in_e g3) dX6_byParity_22 ?_
        refine lv_if_eq (tgt := 51) hx hb dX6_byParity_23 (by decide) (fun c4 => ?_) (fun c4 => ?_)
        · rw [if_pos c4] at h
          refine lv_iinc (v := (x4 + (1 : Int32))) (lv' := [(4, .int (x4 + (1 : Int32))), (0, .ref (fw_ad E j0 0)), (1, .int x1), (2, .int x2), (3, .int x3)]) hx hb dX6_byParity_51 hl (k := 4) rfl rfl (by decide) rfl (fun ls hl => ?_)
          refine lv_goto (tgt := 7) hx hb dX6_byParity_54 (by decide) ?_
          exact ih7 x1 x2 x3 (x4 + (1 : Int32)) H locs ls h hP hS (lv_sub hl [1, 2, 3, 4, 0] rfl)
        · rw [if_neg c4] at h
          refine lv_aload_n hx hb dX6_byParity_26 rfl (lv_at hl 0 rfl) ?_
          refine lv_iload hx hb dX6_byParity_27 (lv_at hl 4 rfl) ?_
          refine lv_iload_n hx hb dX6_byParity_29 rfl (lv_at hl 1 rfl) ?_
          obtain ⟨r5, hc5, h⟩ := fw_b1_e h
          refine fw_ret (va_runV (As := [.int x4, .int x1]) (rest := []) ⟨hx, hb, hml, hown, hU⟩ (k_X7_isInBagOf l hE hj0 x4 x1 hc5) (cwV 2 hU (fw_gV m_313 m_314 m_315 m_2 m_316) rfl rfl rfl (by decide +kernel) ⟨(Nat.le_of_ble_eq_true rfl), (Nat.le_of_ble_eq_true rfl)⟩) ⟨fw_blind, fw_recv hK hP (fw_Vs (f := 0) (by decide) hj0) rfl rfl, fun U hU9 hW9 => ⟨rfl, fw_pre hK hP hSt hS U hU9 hW9⟩⟩ rfl rfl hl.1 rfl (lv_room (Nat.le_of_ble_eq_true rfl)) dX6_byParity_30 ⟨Nat.zero_le _, Nat.zero_le _⟩) hS (fun H locs hP hS => ?_)
          refine lv_if_eq (tgt := 51) hx hb dX6_byParity_33 (by decide) (fun c6 => ?_) (fun c6 => ?_)
          · rw [if_pos c6] at h
            refine lv_iinc (v := (x4 + (1 : Int32))) (lv' := [(4, .int (x4 + (1 : Int32))), (0, .ref (fw_ad E j0 0)), (1, .int x1), (2, .int x2), (3, .int x3)]) hx hb dX6_byParity_51 hl (k := 4) rfl rfl (by decide) rfl (fun ls hl => ?_)
            refine lv_goto (tgt := 7) hx hb dX6_byParity_54 (by decide) ?_
            exact ih7 x1 x2 x3 (x4 + (1 : Int32)) H locs ls h hP hS (lv_sub hl [1, 2, 3, 4, 0] rfl)
          · rw [if_neg c6] at h
            refine lv_iinc (v := (x2 + (1 : Int32))) (lv' := [(2, .int (x2 + (1 : Int32))), (0, .ref (fw_ad E j0 0)), (1, .int x1), (3, .int x3), (4, .int x4)]) hx hb dX6_byParity_36 hl (k := 2) rfl rfl (by decide) rfl (fun ls hl => ?_)
            refine lv_iload_n hx hb dX6_byParity_39 rfl (lv_at hl 3 rfl) ?_
            refine lv_iconst (v := (1 : Int32)) hx hb dX6_byParity_40 (by decide) ?_
            refine lv_aload_n hx hb dX6_byParity_41 rfl (lv_at hl 1 rfl) ?_
            refine va_get (D := fw_D E) (ci := 6) (v := .ref (fw_ad E j0 3)) (C := RX7) (T := TX7) (N := 10) hx hb hU inU7 hown hK (fw_at hP (fw_Vs (f := 0) (by decide) hj0)) 0 rfl rfl 2 (by decide) (hU (Cond.fieldLink RX6 31 "LaundryService$State" "colours" "[I") m_53) (fun _ h9 => h9) rfl dX6_byParity_42 ?_
            refine lv_iload hx hb dX6_byParity_45 (lv_at hl 4 rfl) ?_
            refine va_iald (D := fw_D E) hx hb hK (fw_at hP (fw_Vs (f := 3) (by decide) hj0)) 0 0 rfl rfl (fw_in_e g3) dX6_byParity_47 ?_
            refine lv_ishl hx hb dX6_byParity_48 ?_
            refine lv_ixor hx hb dX6_byParity_49 ?_
            refine lv_istore_n (lv' := [(3, .int (x3 ^^^ ((1 : Int32) <<< ((μ j0 3 x4.toNatClampNeg) &&& (31 : Int32))))), (2, .int (x2 + (1 : Int32))), (0, .ref (fw_ad E j0 0)), (1, .int x1), (4, .int x4)]) hx hb dX6_byParity_50 rfl hl (by decide) rfl (fun ls hl => ?_)
            refine lv_iinc (v := (x4 + (1 : Int32))) (lv' := [(4, .int (x4 + (1 : Int32))), (3, .int (x3 ^^^ ((1 : Int32) <<< ((μ j0 3 x4.toNatClampNeg) &&& (31 : Int32))))), (2, .int (x2 + (1 : Int32))), (0, .ref (fw_ad E j0 0)), (1, .int x1)]) hx hb dX6_byParity_51 hl (k := 4) rfl rfl (by decide) rfl (fun ls hl => ?_)
            refine lv_goto (tgt := 7) hx hb dX6_byParity_54 (by decide) ?_
            exact ih7 x1 (x2 + (1 : Int32)) (x3 ^^^ ((1 : Int32) <<< ((μ j0 3 x4.toNatClampNeg) &&& (31 : Int32)))) (x4 + (1 : Int32)) H locs ls h hP hS (lv_sub hl [3, 4, 2, 1, 0] rfl)
  have EN : ∀ (H : Heap) (locs : List Loc) (ls : Array Slot), fw_P E o d μ H → va_S (fw_A E) s.heap H locs → lv_has ls 5 [(0, .ref (fw_ad E j0 0)), (1, .int x1)] → W p l e (headSpec (fw_ws yX6_byParity cX6_byParity 5 (some .int)) ({ frames := 1, cells := 0, slots := 0, locals := 22 } : Room)).room s m args below meth c H locs 0 0 (MQ below (fw_Q E o d (some (.int r)) μ) args s 0 0 (fw_A E)) (F0 m 0 ls []) := by
    intro H locs ls hP hS hl
    unfold f_X6_byParity at h
    refine lv_iconst (v := (0 : Int32)) hx hb dX6_byParity_0 (by decide) ?_
    refine lv_istore_n (lv' := [(2, .int (0 : Int32)), (0, .ref (fw_ad E j0 0)), (1, .int x1)]) hx hb dX6_byParity_1 rfl hl (by decide) rfl (fun ls hl => ?_)
    refine lv_iconst (v := (0 : Int32)) hx hb dX6_byParity_2 (by decide) ?_
    refine lv_istore_n (lv' := [(3, .int (0 : Int32)), (2, .int (0 : Int32)), (0, .ref (fw_ad E j0 0)), (1, .int x1)]) hx hb dX6_byParity_3 rfl hl (by decide) rfl (fun ls hl => ?_)
    refine lv_iconst (v := (0 : Int32)) hx hb dX6_byParity_4 (by decide) ?_
    refine lv_istore (lv' := [(4, .int (0 : Int32)), (3, .int (0 : Int32)), (2, .int (0 : Int32)), (0, .ref (fw_ad E j0 0)), (1, .int x1)]) hx hb dX6_byParity_5 hl (by decide) rfl (fun ls hl => ?_)
    exact L7 1000 x1 (0 : Int32) (0 : Int32) (0 : Int32) H locs ls h hP hS (lv_sub hl [3, 4, 2, 1, 0] rfl)
  subst ha
  have hl := lv_entry ([.ref (fw_ad E j0 0), .int x1]) (n := 5) (Nat.le_of_ble_eq_true rfl)
  rw [lg_entry_eq]
  generalize (lg_sl ([.ref (fw_ad E j0 0), .int x1]) ++ List.replicate (5 - (lg_sl ([.ref (fw_ad E j0 0), .int x1])).length) Slot.unset).toArray = ls at hl ⊢
  exact EN s.heap [] ls hP va_S.rf hl
