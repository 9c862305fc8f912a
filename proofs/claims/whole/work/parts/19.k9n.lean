/-! contracts, laid by wip/whole/lay.py out of the bytecode listing -/
set_option maxHeartbeats 4000000 in
set_option maxRecDepth 100000 in
theorem k_X9_partner (l : Launch) (hst : l.stackTraces = false) {E : fw_E} {o : Int64} {d : UInt64} (hE : fw_ok E) {μ μ' : fw_M} (x1 : Int32) {r : Int32} {k : Nat} (h : f_X9_partner μ x1 = some (μ', r, k)) : vx_Met l yX9_partner (fw_ws yX9_partner cX9_partner 3 (some .int)) ({ frames := 7, cells := 2, slots := 12, locals := 111 } : Room) (va_Pc [.ref (fw_ad E 0 10), .int x1] (fw_Pre E o d μ)) (fw_QR E o d k (some (.int r)) μ') (fw_XC E o d k μ') 2 12 (fw_A E) := by
  refine vx_ofW (cc := cX9_partner) (maxL := 3) (ret := (some .int)) (by decide) rfl ?_
  intro p e s m args below meth c s₁ B hml hex hv
  obtain ⟨ha, hK, hP, hSt⟩ := hv
  have hx := B.exec
  have hb := B.bytes
  have hr := B.returns
  have hts := atoms_spec (ws := fw_ws yX9_partner cX9_partner 3 (some .int)) B.pre
  have hU : ∀ w ∈ fw_U, w.before args s = true := fun w hw => hts w (List.mem_cons_of_mem _ hw)
  have hown : s.vm.findClass RX9 = some m.cls := findClass_of_methodNamed B.named
  have hlocks := B.notSynchronized
  have EN : ∀ (H : Heap) (locs : List Loc) (ls : Array Slot), fw_P E o d μ H → va_S (fw_A E) s.heap H locs → lv_has ls 3 [(0, .ref (fw_ad E 0 10)), (1, .int x1)] → W p l e (headSpec (fw_ws yX9_partner cX9_partner 3 (some .int)) ({ frames := 7, cells := 2, slots := 12, locals := 111 } : Room)).room s m args below meth c H locs 0 0 (vx_MQ below (fw_QR E o d k (some (.int r)) μ') (fw_XC E o d k μ') args s 2 12 (fw_A E)) (F0 m 0 ls []) := by
    intro H locs ls hP hS hl
    unfold f_X9_partner at h
    refine lv_aload_n hx hb dX9_partner_0 rfl (lv_at hl 0 rfl) ?_
    refine lv_iload_n hx hb dX9_partner_1 rfl (lv_at hl 1 rfl) ?_
    obtain ⟨μ1, r1, k1, hc1, h⟩ := fw_b3_e h
    refine fw_xretv (vx_runV (As := [.int x1]) (rest := []) ⟨hx, hb, hml, hown, hU⟩ (k_X9_requireGarment l hst hE x1 hc1) (cwV 1 hU (fw_gV m_625 m_627 ms_4 m_1 m_628) rfl rfl rfl (by decide +kernel) ⟨(Nat.le_of_ble_eq_true rfl), (Nat.le_of_ble_eq_true rfl)⟩) ⟨fw_blind, fw_recv hK hP (fw_V0 (f := 10) (by decide) (by decide)) rfl rfl, fun U hU9 hW9 => ⟨rfl, fw_pre hK hP hSt hS U hU9 hW9⟩⟩ rfl rfl hl.1 rfl (lv_room (Nat.le_of_ble_eq_true rfl)) dX9_partner_2 ⟨(Nat.le_of_ble_eq_true rfl), (Nat.le_of_ble_eq_true rfl)⟩) hS (fun hk1 H locs hP hS => ?_) (fun hk1 H locs q ce hP hS hce hcv hcl => ?_)
    · rw [if_pos hk1] at h
      refine lv_aload_n hx hb dX9_partner_5 rfl (lv_at hl 0 rfl) ?_
      refine va_get (D := fw_D E) (ci := 7) (v := .ref (fw_ad E 0 0)) (C := RX9) (T := TX9) (N := 9) hx hb hU inU9 hown hK (fw_at hP (fw_V0 (f := 10) (by decide) (by decide))) 0 rfl rfl 0 (by decide) (hU (Cond.fieldLink RX9 12 "LaundryService" "state" "LLaundryService$State;") m_193) (fun _ h9 => h9) rfl dX9_partner_6 ?_
      refine va_get (D := fw_D E) (ci := 6) (v := .ref (fw_ad E 0 2)) (C := RX7) (T := TX7) (N := 10) hx hb hU inU7 hown hK (fw_at hP (fw_Vs (f := 0) (by decide) (by decide))) 0 rfl rfl 1 (by decide) (hU (Cond.fieldLink RX9 119 "LaundryService$State" "socks" "[Z") m_51) (fun _ h9 => h9) rfl dX9_partner_9 ?_
      refine lv_iload_n hx hb dX9_partner_12 rfl (lv_at hl 1 rfl) ?_
      obtain ⟨g2, h⟩ := fw_g_e h
      refine va_zald (D := fw_D E) hx hb hK (fw_at hP (fw_Vs (f := 2) (by decide) (by decide))) 0 1 rfl rfl (fw_in_e g2) dX9_partner_13 ?_
      refine lv_if_ne (tgt := 27) hx hb dX9_partner_14 (by decide) (fun c3 => ?_) (fun c3 => ?_)
      · rw [if_neg c3] at h
        refine lv_aload_n hx hb dX9_partner_27 rfl (lv_at hl 0 rfl) ?_
        refine va_get (D := fw_D E) (ci := 7) (v := .ref (fw_ad E 0 0)) (C := RX9) (T := TX9) (N := 9) hx hb hU inU9 hown hK (fw_at hP (fw_V0 (f := 10) (by decide) (by decide))) 0 rfl rfl 0 (by decide) (hU (Cond.fieldLink RX9 12 "LaundryService" "state" "LLaundryService$State;") m_193) (fun _ h9 => h9) rfl dX9_partner_28 ?_
        refine lv_iload_n hx hb dX9_partner_31 rfl (lv_at hl 1 rfl) ?_
        obtain ⟨r4, hc4, h⟩ := fw_b1_e h
        refine fw_ret (va_runS (As := [.ref (fw_ad E 0 0), .int x1]) (rest := []) ⟨hx, hb, hml, hown, hU⟩ (k_X6_otherSock l hE (by decide) x1 hc4) (va_cwS 2 hU (fw_gS m_686 m_318 m_28 m_319) rfl rfl rfl (by decide +kernel) ⟨(Nat.le_of_ble_eq_true rfl), (Nat.le_of_ble_eq_true rfl)⟩) ⟨fw_blind, fun U hU9 hW9 => ⟨rfl, fw_pre hK hP hSt hS U hU9 hW9⟩⟩ rfl rfl hl.1 rfl (lv_room (Nat.le_of_ble_eq_true rfl)) dX9_partner_32 ⟨(Nat.le_of_ble_eq_true rfl), (Nat.le_of_ble_eq_true rfl)⟩) hS (fun H locs hP hS => ?_)
        refine lv_istore_n (lv' := [(2, .int r4), (0, .ref (fw_ad E 0 10)), (1, .int x1)]) hx hb dX9_partner_35 rfl hl (by decide) rfl (fun ls hl => ?_)
        refine lv_iload_n hx hb dX9_partner_36 rfl (lv_at hl 0 rfl) ?_
        refine lv_if_ge (tgt := 50) hx hb dX9_partner_37 (by decide) (fun c5 => ?_) (fun c5 => ?_)
        · rw [if_pos c5] at h
          refine lv_iload_n hx hb dX9_partner_50 rfl (lv_at hl 0 rfl) ?_
          refine W.widen (k := 2) (n := 12) (Nat.le_of_ble_eq_true rfl) (Nat.le_of_ble_eq_true rfl) (vx_ret ?_)
          exact W.iret (v := r4) hx hb hr (fw_xw (mk := Value.int) h hP hS) hS.2.2 dX9_partner_51
        · rw [if_neg c5] at h
          exact fw_throwN hx hb hst hown hU hSt hP hS (m_687) (m_29) (List.mem_of_getElem? (i := 1) rfl) thr_158 (hl.1.trans hml.symm) dX9_partner_40 dX9_partner_43 dX9_partner_44 dX9_partner_46 dX9_partner_49 hex (Nat.le_of_ble_eq_true rfl) (Nat.le_of_ble_eq_true rfl) (Nat.le_of_ble_eq_true rfl) (Nat.le_of_ble_eq_true rfl) hlocks h (by decide) rfl (Nat.le_of_ble_eq_true rfl) (Nat.le_of_ble_eq_true rfl)
      · rw [if_pos c3] at h
        exact fw_throw hx hb hst hown hU hSt hP hS (m_475) (m_18) (List.mem_of_getElem? (i := 0) rfl) thr_146 (hl.1.trans hml.symm) dX9_partner_17 dX9_partner_20 dX9_partner_21 dX9_partner_23 dX9_partner_26 hex (Nat.le_of_ble_eq_true rfl) (Nat.le_of_ble_eq_true rfl) (Nat.le_of_ble_eq_true rfl) (Nat.le_of_ble_eq_true rfl) hlocks h (by decide) rfl (Nat.le_of_ble_eq_true rfl) (Nat.le_of_ble_eq_true rfl)
    · rw [if_neg hk1] at h
      exact vx_out (fun z hz => (hex z hz).elim) hlocks hce hcv hcl (fw_xo h hk1 hP hS) hS.2.2 (Nat.le_of_ble_eq_true rfl) (Nat.le_of_ble_eq_true rfl)
  subst ha
  have hl := lv_entry ([.ref (fw_ad E 0 10), .int x1]) (n := 3) (Nat.le_of_ble_eq_true rfl)
  rw [lg_entry_eq]
  generalize (lg_sl ([.ref (fw_ad E 0 10), .int x1]) ++ List.replicate (3 - (lg_sl ([.ref (fw_ad E 0 10), .int x1])).length) Slot.unset).toArray = ls at hl ⊢
  exact EN s.heap [] ls hP va_S.rf hl
set_option maxHeartbeats 4000000 in
set_option maxRecDepth 100000 in
theorem k_X9_dirtiest (l : Launch) (hst : l.stackTraces = false) {E : fw_E} {o : Int64} {d : UInt64} (hE : fw_ok E) {μ μ' : fw_M} (x1 : Int32) {r : Int32} {k : Nat} (h : f_X9_dirtiest μ x1 = some (μ', r, k)) : vx_Met l yX9_dirtiest (fw_ws yX9_dirtiest cX9_dirtiest 3 (some .int)) ({ frames := 6, cells := 1, slots := 6, locals := 90 } : Room) (va_Pc [.ref (fw_ad E 0 10), .int x1] (fw_Pre E o d μ)) (fw_QR E o d k (some (.int r)) μ') (fw_XC E o d k μ') 1 6 (fw_A E) := by
  refine vx_ofW (cc := cX9_dirtiest) (maxL := 3) (ret := (some .int)) (by decide) rfl ?_
  intro p e s m args below meth c s₁ B hml hex hv
  obtain ⟨ha, hK, hP, hSt⟩ := hv
  have hx := B.exec
  have hb := B.bytes
  have hr := B.returns
  have hts := atoms_spec (ws := fw_ws yX9_dirtiest cX9_dirtiest 3 (some .int)) B.pre
  have hU : ∀ w ∈ fw_U, w.before args s = true := fun w hw => hts w (List.mem_cons_of_mem _ hw)
  have hown : s.vm.findClass RX9 = some m.cls := findClass_of_methodNamed B.named
  have hlocks := B.notSynchronized
  have L2 : ∀ (n : Nat) (μ : fw_M) (x1 : Int32) (x2 : Int32) (H : Heap) (locs : List Loc) (ls : Array Slot), f_X9_dirtiest_L2 n μ x1 x2 = some (μ', r, k) → fw_P E o d μ H → va_S (fw_A E) s.heap H locs → lv_has ls 3 [(0, .ref (fw_ad E 0 10)), (1, .int x1), (2, .int x2)] → W p l e (headSpec (fw_ws yX9_dirtiest cX9_dirtiest 3 (some .int)) ({ frames := 6, cells := 1, slots := 6, locals := 90 } : Room)).room s m args below meth c H locs 0 0 (vx_MQ below (fw_QR E o d k (some (.int r)) μ') (fw_XC E o d k μ') args s 1 6 (fw_A E)) (F0 m 2 ls []) := by
    intro n2
    induction n2 with
    | zero => intro μ x1 x2 H locs ls h; rw [f_X9_dirtiest_L2] at h; cases h
    | succ n2 ih2 =>
      intro μ x1 x2 H locs ls h hP hS hl
      rw [f_X9_dirtiest_L2] at h
      refine lv_iload_n hx hb dX9_dirtiest_2 rfl (lv_at hl 2 rfl) ?_
      refine lv_aload_n hx hb dX9_dirtiest_3 rfl (lv_at hl 0 rfl) ?_
      refine va_get (D := fw_D E) (ci := 7) (v := .ref (fw_ad E 0 0)) (C := RX9) (T := TX9) (N := 9) hx hb hU inU9 hown hK (fw_at hP (fw_V0 (f := 10) (by decide) (by decide))) 0 rfl rfl 0 (by decide) (hU (Cond.fieldLink RX9 12 "LaundryService" "state" "LLaundryService$State;") m_193) (fun _ h9 => h9) rfl dX9_dirtiest_4 ?_
      refine va_get (D := fw_D E) (ci := 6) (v := .int (μ 0 0 6)) (C := RX7) (T := TX7) (N := 10) hx hb hU inU7 hown hK (fw_at hP (fw_Vs (f := 0) (by decide) (by decide))) 0 rfl rfl 6 (by decide) (hU (Cond.fieldLink RX9 109 "LaundryService$State" "garmentCount" "I") m_68) (fun _ h9 => h9) rfl dX9_dirtiest_7 ?_
      refine lv_icmp_ge (tgt := 43) hx hb dX9_dirtiest_10 (by decide) (fun c1 => ?_) (fun c1 => ?_)
      · rw [if_pos c1] at h
        exact fw_throwN hx hb hst hown hU hSt hP hS (m_687) (m_29) (List.mem_of_getElem? (i := 3) rfl) thr_158 (hl.1.trans hml.symm) dX9_dirtiest_43 dX9_dirtiest_46 dX9_dirtiest_47 dX9_dirtiest_49 dX9_dirtiest_52 hex (Nat.le_of_ble_eq_true rfl) (Nat.le_of_ble_eq_true rfl) (Nat.le_of_ble_eq_true rfl) (Nat.le_of_ble_eq_true rfl) hlocks h (by decide) rfl (Nat.le_of_ble_eq_true rfl) (Nat.le_of_ble_eq_true rfl)
      · rw [if_neg c1] at h
        refine lv_aload_n hx hb dX9_dirtiest_13 rfl (lv_at hl 0 rfl) ?_
        refine va_get (D := fw_D E) (ci := 7) (v := .ref (fw_ad E 0 0)) (C := RX9) (T := TX9) (N := 9) hx hb hU inU9 hown hK (fw_at hP (fw_V0 (f := 10) (by decide) (by decide))) 0 rfl rfl 0 (by decide) (hU (Cond.fieldLink RX9 12 "LaundryService" "state" "LLaundryService$State;") m_193) (fun _ h9 => h9) rfl dX9_dirtiest_14 ?_
        refine va_get (D := fw_D E) (ci := 6) (v := .ref (fw_ad E 0 5)) (C := RX7) (T := TX7) (N := 10) hx hb hU inU7 hown hK (fw_at hP (fw_Vs (f := 0) (by decide) (by decide))) 0 rfl rfl 4 (by decide) (hU (Cond.fieldLink RX9 132 "LaundryService$State" "places" "[I") m_61) (fun _ h9 => h9) rfl dX9_dirtiest_17 ?_
        refine lv_iload_n hx hb dX9_dirtiest_20 rfl (lv_at hl 2 rfl) ?_
        obtain ⟨g2, h⟩ := fw_g_e h
        refine va_iald (D := fw_D E) hx hb hK (fw_at hP (fw_Vs (f := 5) (by decide) (by decide))) 0 0 rfl rfl (fw_in_e g2) dX9_dirtiest_21 ?_
        refine lv_iconst (v := (3 : Int32)) hx hb dX9_dirtiest_22 (by decide) ?_
        refine lv_icmp_eq (tgt := 37) hx hb dX9_dirtiest_23 (by decide) (fun c3 => ?_) (fun c3 => ?_)
        · rw [if_pos c3] at h
          refine lv_iinc (v := (x2 + (1 : Int32))) (lv' := [(2, .int (x2 + (1 : Int32))), (0, .ref (fw_ad E 0 10)), (1, .int x1)]) hx hb dX9_dirtiest_37 hl (k := 2) rfl rfl (by decide) rfl (fun ls hl => ?_)
          refine lv_goto (tgt := 2) hx hb dX9_dirtiest_40 (by decide) ?_
          exact ih2 μ x1 (x2 + (1 : Int32)) H locs ls h hP hS (lv_sub hl [1, 2, 0] rfl)
        · rw [if_neg c3] at h
          refine lv_aload_n hx hb dX9_dirtiest_26 rfl (lv_at hl 0 rfl) ?_
          refine lv_iload_n hx hb dX9_dirtiest_27 rfl (lv_at hl 2 rfl) ?_
          obtain ⟨r4, hc4, h⟩ := fw_b1_e h
          refine fw_ret (va_runV (As := [.int x2]) (rest := []) ⟨hx, hb, hml, hown, hU⟩ (k_X9_dirtierThan l hE x2 hc4) (cwV 1 hU (fw_gV m_860 m_862 ms_5 m_1 m_863) rfl rfl rfl (by decide +kernel) ⟨(Nat.le_of_ble_eq_true rfl), (Nat.le_of_ble_eq_true rfl)⟩) ⟨fw_blind, fw_recv hK hP (fw_V0 (f := 10) (by decide) (by decide)) rfl rfl, fun U hU9 hW9 => ⟨rfl, fw_pre hK hP hSt hS U hU9 hW9⟩⟩ rfl rfl hl.1 rfl (lv_room (Nat.le_of_ble_eq_true rfl)) dX9_dirtiest_28 ⟨Nat.zero_le _, Nat.zero_le _⟩) hS (fun H locs hP hS => ?_)
          refine lv_iload_n hx hb dX9_dirtiest_31 rfl (lv_at hl 1 rfl) ?_
          refine lv_icmp_ne (tgt := 37) hx hb dX9_dirtiest_32 (by decide) (fun c5 => ?_) (fun c5 => ?_)
          · rw [if_neg c5] at h
            refine lv_iinc (v := (x2 + (1 : Int32))) (lv' := [(2, .int (x2 + (1 : Int32))), (0, .ref (fw_ad E 0 10)), (1, .int x1)]) hx hb dX9_dirtiest_37 hl (k := 2) rfl rfl (by decide) rfl (fun ls hl => ?_)
            refine lv_goto (tgt := 2) hx hb dX9_dirtiest_40 (by decide) ?_
            exact ih2 μ x1 (x2 + (1 : Int32)) H locs ls h hP hS (lv_sub hl [1, 2, 0] rfl)
          · rw [if_pos c5] at h
            refine lv_iload_n hx hb dX9_dirtiest_35 rfl (lv_at hl 2 rfl) ?_
            refine W.widen (k := 1) (n := 6) (Nat.le_of_ble_eq_true rfl) (Nat.le_of_ble_eq_true rfl) (vx_ret ?_)
            exact W.iret (v := x2) hx hb hr (fw_xw (mk := Value.int) h hP hS) hS.2.2 dX9_dirtiest_36
  have EN : ∀ (H : Heap) (locs : List Loc) (ls : Array Slot), fw_P E o d μ H → va_S (fw_A E) s.heap H locs → lv_has ls 3 [(0, .ref (fw_ad E 0 10)), (1, .int x1)] → W p l e (headSpec (fw_ws yX9_dirtiest cX9_dirtiest 3 (some .int)) ({ frames := 6, cells := 1, slots := 6, locals := 90 } : Room)).room s m args below meth c H locs 0 0 (vx_MQ below (fw_QR E o d k (some (.int r)) μ') (fw_XC E o d k μ') args s 1 6 (fw_A E)) (F0 m 0 ls []) := by
    intro H locs ls hP hS hl
    unfold f_X9_dirtiest at h
    refine lv_iconst (v := (0 : Int32)) hx hb dX9_dirtiest_0 (by decide) ?_
    refine lv_istore_n (lv' := [(2, .int (0 : Int32)), (0, .ref (fw_ad E 0 10)), (1, .int x1)]) hx hb dX9_dirtiest_1 rfl hl (by decide) rfl (fun ls hl => ?_)
    exact L2 1000 μ x1 (0 : Int32) H locs ls h hP hS (lv_sub hl [1, 2, 0] rfl)
  subst ha
  have hl := lv_entry ([.ref (fw_ad E 0 10), .int x1]) (n := 3) (Nat.le_of_ble_eq_true rfl)
  rw [lg_entry_eq]
  generalize (lg_sl ([.ref (fw_ad E 0 10), .int x1]) ++ List.replicate (3 - (lg_sl ([.ref (fw_ad E 0 10), .int x1])).length) Slot.unset).toArray = ls at hl ⊢
  exact EN s.heap [] ls hP va_S.rf hl
set_option maxHeartbeats 4000000 in
set_option maxRecDepth 100000 in
theorem k_X9_spender (l : Launch) (hst : l.stackTraces = false) {E : fw_E} {o : Int64} {d : UInt64} (hE : fw_ok E) {μ μ' : fw_M} (x1 : Int32) {r : Int32} {k : Nat} (h : f_X9_spender μ x1 = some (μ', r, k)) : vx_Met l yX9_spender (fw_ws yX9_spender cX9_spender 3 (some .int)) ({ frames := 6, cells := 1, slots := 6, locals := 90 } : Room) (va_Pc [.ref (fw_ad E 0 10), .int x1] (fw_Pre E o d μ)) (fw_QR E o d k (some (.int r)) μ') (fw_XC E o d k μ') 1 6 (fw_A E) := by
  refine vx_ofW (cc := cX9_spender) (maxL := 3) (ret := (some .int)) (by decide) rfl ?_
  intro p e s m args below meth c s₁ B hml hex hv
  obtain ⟨ha, hK, hP, hSt⟩ := hv
  have hx := B.exec
  have hb := B.bytes
  have hr := B.returns
  have hts := atoms_spec (ws := fw_ws yX9_spender cX9_spender 3 (some .int)) B.pre
  have hU : ∀ w ∈ fw_U, w.before args s = true := fun w hw => hts w (List.mem_cons_of_mem _ hw)
  have hown : s.vm.findClass RX9 = some m.cls := findClass_of_methodNamed B.named
  have hlocks := B.notSynchronized
  have L2 : ∀ (n : Nat) (μ : fw_M) (x1 : Int32) (x2 : Int32) (H : Heap) (locs : List Loc) (ls : Array Slot), f_X9_spender_L2 n μ x1 x2 = some (μ', r, k) → fw_P E o d μ H → va_S (fw_A E) s.heap H locs → lv_has ls 3 [(0, .ref (fw_ad E 0 10)), (1, .int x1), (2, .int x2)] → W p l e (headSpec (fw_ws yX9_spender cX9_spender 3 (some .int)) ({ frames := 6, cells := 1, slots := 6, locals := 90 } : Room)).room s m args below meth c H locs 0 0 (vx_MQ below (fw_QR E o d k (some (.int r)) μ') (fw_XC E o d k μ') args s 1 6 (fw_A E)) (F0 m 2 ls []) := by
    intro n2
    induction n2 with
    | zero => intro μ x1 x2 H locs ls h; rw [f_X9_spender_L2] at h; cases h
    | succ n2 ih2 =>
      intro μ x1 x2 H locs ls h hP hS hl
      rw [f_X9_spender_L2] at h
      refine lv_iload_n hx hb dX9_spender_2 rfl (lv_at hl 2 rfl) ?_
      refine lv_iconst (v := (4 : Int32)) hx hb dX9_spender_3 (by decide) ?_
      refine lv_icmp_ge (tgt := 24) hx hb dX9_spender_4 (by decide) (fun c1 => ?_) (fun c1 => ?_)
      · rw [if_pos c1] at h
        exact fw_throwN hx hb hst hown hU hSt hP hS (m_687) (m_29) (List.mem_of_getElem? (i := 4) rfl) thr_158 (hl.1.trans hml.symm) dX9_spender_24 dX9_spender_27 dX9_spender_28 dX9_spender_30 dX9_spender_33 hex (Nat.le_of_ble_eq_true rfl) (Nat.le_of_ble_eq_true rfl) (Nat.le_of_ble_eq_true rfl) (Nat.le_of_ble_eq_true rfl) hlocks h (by decide) rfl (Nat.le_of_ble_eq_true rfl) (Nat.le_of_ble_eq_true rfl)
      · rw [if_neg c1] at h
        refine lv_aload_n hx hb dX9_spender_7 rfl (lv_at hl 0 rfl) ?_
        refine lv_iload_n hx hb dX9_spender_8 rfl (lv_at hl 2 rfl) ?_
        obtain ⟨r2, hc2, h⟩ := fw_b1_e h
        refine fw_ret (va_runV (As := [.int x2]) (rest := []) ⟨hx, hb, hml, hown, hU⟩ (k_X9_spendingMoreThan l hE x2 hc2) (cwV 1 hU (fw_gV m_872 m_874 ms_6 m_1 m_875) rfl rfl rfl (by decide +kernel) ⟨(Nat.le_of_ble_eq_true rfl), (Nat.le_of_ble_eq_true rfl)⟩) ⟨fw_blind, fw_recv hK hP (fw_V0 (f := 10) (by decide) (by decide)) rfl rfl, fun U hU9 hW9 => ⟨rfl, fw_pre hK hP hSt hS U hU9 hW9⟩⟩ rfl rfl hl.1 rfl (lv_room (Nat.le_of_ble_eq_true rfl)) dX9_spender_9 ⟨Nat.zero_le _, Nat.zero_le _⟩) hS (fun H locs hP hS => ?_)
        refine lv_iload_n hx hb dX9_spender_12 rfl (lv_at hl 1 rfl) ?_
        refine lv_icmp_ne (tgt := 18) hx hb dX9_spender_13 (by decide) (fun c3 => ?_) (fun c3 => ?_)
        · rw [if_neg c3] at h
          refine lv_iinc (v := (x2 + (1 : Int32))) (lv' := [(2, .int (x2 + (1 : Int32))), (0, .ref (fw_ad E 0 10)), (1, .int x1)]) hx hb dX9_spender_18 hl (k := 2) rfl rfl (by decide) rfl (fun ls hl => ?_)
          refine lv_goto (tgt := 2) hx hb dX9_spender_21 (by decide) ?_
          exact ih2 μ x1 (x2 + (1 : Int32)) H locs ls h hP hS (lv_sub hl [1, 2, 0] rfl)
        · rw [if_pos c3] at h
          refine lv_iload_n hx hb dX9_spender_16 rfl (lv_at hl 2 rfl) ?_
          refine W.widen (k := 1) (n := 6) (Nat.le_of_ble_eq_true rfl) (Nat.le_of_ble_eq_true rfl) (vx_ret ?_)
          exact W.iret (v := x2) hx hb hr (fw_xw (mk := Value.int) h hP hS) hS.2.2 dX9_spender_17
  have EN : ∀ (H : Heap) (locs : List Loc) (ls : Array Slot), fw_P E o d μ H → va_S (fw_A E) s.heap H locs → lv_has ls 3 [(0, .ref (fw_ad E 0 10)), (1, .int x1)] → W p l e (headSpec (fw_ws yX9_spender cX9_spender 3 (some .int)) ({ frames := 6, cells := 1, slots := 6, locals := 90 } : Room)).room s m args below meth c H locs 0 0 (vx_MQ below (fw_QR E o d k (some (.int r)) μ') (fw_XC E o d k μ') args s 1 6 (fw_A E)) (F0 m 0 ls []) := by
    intro H locs ls hP hS hl
    unfold f_X9_spender at h
    refine lv_iconst (v := (0 : Int32)) hx hb dX9_spender_0 (by decide) ?_
    refine lv_istore_n (lv' := [(2, .int (0 : Int32)), (0, .ref (fw_ad E 0 10)), (1, .int x1)]) hx hb dX9_spender_1 rfl hl (by decide) rfl (fun ls hl => ?_)
    exact L2 1000 μ x1 (0 : Int32) H locs ls h hP hS (lv_sub hl [1, 2, 0] rfl)
  subst ha
  have hl := lv_entry ([.ref (fw_ad E 0 10), .int x1]) (n := 3) (Nat.le_of_ble_eq_true rfl)
  rw [lg_entry_eq]
  generalize (lg_sl ([.ref (fw_ad E 0 10), .int x1]) ++ List.replicate (3 - (lg_sl ([.ref (fw_ad E 0 10), .int x1])).length) Slot.unset).toArray = ls at hl ⊢
  exact EN s.heap [] ls hP va_S.rf hl
set_option maxHeartbeats 4000000 in
set_option maxRecDepth 100000 in
theorem k_X9_errorPosition (l : Launch) (hst : l.stackTraces = false) {E : fw_E} {o : Int64} {d : UInt64} (hE : fw_ok E) {μ μ' : fw_M} {r : Int32} {k : Nat} (h : f_X9_errorPosition μ = some (μ', r, k)) : vx_Met l yX9_errorPosition (fw_ws yX9_errorPosition cX9_errorPosition 1 (some .int)) ({ frames := 6, cells := 1, slots := 6, locals := 90 } : Room) (va_Pc [.ref (fw_ad E 0 10)] (fw_Pre E o d μ)) (fw_QR E o d k (some (.int r)) μ') (fw_XC E o d k μ') 1 6 (fw_A E) := by
  refine vx_ofW (cc := cX9_errorPosition) (maxL := 1) (ret := (some .int)) (by decide) rfl ?_
  intro p e s m args below meth c s₁ B hml hex hv
  obtain ⟨ha, hK, hP, hSt⟩ := hv
  have hx := B.exec
  have hb := B.bytes
  have hr := B.returns
  have hts := atoms_spec (ws := fw_ws yX9_errorPosition cX9_errorPosition 1 (some .int)) B.pre
  have hU : ∀ w ∈ fw_U, w.before args s = true := fun w hw => hts w (List.mem_cons_of_mem _ hw)
  have hown : s.vm.findClass RX9 = some m.cls := findClass_of_methodNamed B.named
  have hlocks := B.notSynchronized
  have EN : ∀ (H : Heap) (locs : List Loc) (ls : Array Slot), fw_P E o d μ H → va_S (fw_A E) s.heap H locs → lv_has ls 1 [(0, .ref (fw_ad E 0 10))] → W p l e (headSpec (fw_ws yX9_errorPosition cX9_errorPosition 1 (some .int)) ({ frames := 6, cells := 1, slots := 6, locals := 90 } : Room)).room s m args below meth c H locs 0 0 (vx_MQ below (fw_QR E o d k (some (.int r)) μ') (fw_XC E o d k μ') args s 1 6 (fw_A E)) (F0 m 0 ls []) := by
    intro H locs ls hP hS hl
    unfold f_X9_errorPosition at h
    refine lv_aload_n hx hb dX9_errorPosition_0 rfl (lv_at hl 0 rfl) ?_
    refine va_get (D := fw_D E) (ci := 7) (v := .int (μ 0 10 7)) (C := RX9) (T := TX9) (N := 9) hx hb hU inU9 hown hK (fw_at hP (fw_V0 (f := 10) (by decide) (by decide))) 0 rfl rfl 7 (by decide) (hU (Cond.fieldLink RX9 47 "LaundryService" "keptErrorPosition" "I") m_200) (fun _ h9 => h9) rfl dX9_errorPosition_1 ?_
    refine lv_if_ge (tgt := 18) hx hb dX9_errorPosition_4 (by decide) (fun c1 => ?_) (fun c1 => ?_)
    · rw [if_pos c1] at h
      refine lv_aload_n hx hb dX9_errorPosition_18 rfl (lv_at hl 0 rfl) ?_
      refine va_get (D := fw_D E) (ci := 7) (v := .int (μ 0 10 7)) (C := RX9) (T := TX9) (N := 9) hx hb hU inU9 hown hK (fw_at hP (fw_V0 (f := 10) (by decide) (by decide))) 0 rfl rfl 7 (by decide) (hU (Cond.fieldLink RX9 47 "LaundryService" "keptErrorPosition" "I") m_200) (fun _ h9 => h9) rfl dX9_errorPosition_19 ?_
      refine W.widen (k := 1) (n := 6) (Nat.le_of_ble_eq_true rfl) (Nat.le_of_ble_eq_true rfl) (vx_ret ?_)
      exact W.iret (v := (μ 0 10 7)) hx hb hr (fw_xw (mk := Value.int) h hP hS) hS.2.2 dX9_errorPosition_22
    · rw [if_neg c1] at h
      exact fw_throwNW hx hb hst hown hU hSt hP hS (m_687) (m_29) (List.mem_of_getElem? (i := 10) rfl) thr_158 (hl.1.trans hml.symm) dX9_errorPosition_7 dX9_errorPosition_10 dX9_errorPosition_11 dX9_errorPosition_14 dX9_errorPosition_17 hex (Nat.le_of_ble_eq_true rfl) (Nat.le_of_ble_eq_true rfl) (Nat.le_of_ble_eq_true rfl) (Nat.le_of_ble_eq_true rfl) hlocks h (by decide) rfl (Nat.le_of_ble_eq_true rfl) (Nat.le_of_ble_eq_true rfl)
  subst ha
  have hl := lv_entry ([.ref (fw_ad E 0 10)]) (n := 1) (Nat.le_of_ble_eq_true rfl)
  rw [lg_entry_eq]
  generalize (lg_sl ([.ref (fw_ad E 0 10)]) ++ List.replicate (1 - (lg_sl ([.ref (fw_ad E 0 10)])).length) Slot.unset).toArray = ls at hl ⊢
  exact EN s.heap [] ls hP va_S.rf hl
set_option maxHeartbeats 4000000 in
set_option maxRecDepth 100000 in
theorem k_X9_failedCommand (l : Launch) (hst : l.stackTraces = false) {E : fw_E} {o : Int64} {d : UInt64} (hE : fw_ok E) {μ μ' : fw_M} {r : Int32} {k : Nat} (h : f_X9_failedCommand μ = some (μ', r, k)) : vx_Met l yX9_failedCommand (fw_ws yX9_failedCommand cX9_failedCommand 1 (some .int)) ({ frames := 6, cells := 1, slots := 6, locals := 90 } : Room) (va_Pc [.ref (fw_ad E 0 10)] (fw_Pre E o d μ)) (fw_QR E o d k (some (.int r)) μ') (fw_XC E o d k μ') 1 6 (fw_A E) := by
  refine vx_ofW (cc := cX9_failedCommand) (maxL := 1) (ret := (some .int)) (by decide) rfl ?_
  intro p e s m args below meth c s₁ B hml hex hv
  obtain ⟨ha, hK, hP, hSt⟩ := hv
  have hx := B.exec
  have hb := B.bytes
  have hr := B.returns
  have hts := atoms_spec (ws := fw_ws yX9_failedCommand cX9_failedCommand 1 (some .int)) B.pre
  have hU : ∀ w ∈ fw_U, w.before args s = true := fun w hw => hts w (List.mem_cons_of_mem _ hw)
  have hown : s.vm.findClass RX9 = some m.cls := findClass_of_methodNamed B.named
  have hlocks := B.notSynchronized
  have EN : ∀ (H : Heap) (locs : List Loc) (ls : Array Slot), fw_P E o d μ H → va_S (fw_A E) s.heap H locs → lv_has ls 1 [(0, .ref (fw_ad E 0 10))] → W p l e (headSpec (fw_ws yX9_failedCommand cX9_failedCommand 1 (some .int)) ({ frames := 6, cells := 1, slots := 6, locals := 90 } : Room)).room s m args below meth c H locs 0 0 (vx_MQ below (fw_QR E o d k (some (.int r)) μ') (fw_XC E o d k μ') args s 1 6 (fw_A E)) (F0 m 0 ls []) := by
    intro H locs ls hP hS hl
    unfold f_X9_failedCommand at h
    refine lv_aload_n hx hb dX9_failedCommand_0 rfl (lv_at hl 0 rfl) ?_
    refine va_get (D := fw_D E) (ci := 7) (v := .int (μ 0 10 8)) (C := RX9) (T := TX9) (N := 9) hx hb hU inU9 hown hK (fw_at hP (fw_V0 (f := 10) (by decide) (by decide))) 0 rfl rfl 8 (by decide) (hU (Cond.fieldLink RX9 51 "LaundryService" "keptFailedCommand" "I") m_201) (fun _ h9 => h9) rfl dX9_failedCommand_1 ?_
    refine lv_if_ge (tgt := 18) hx hb dX9_failedCommand_4 (by decide) (fun c1 => ?_) (fun c1 => ?_)
    · rw [if_pos c1] at h
      refine lv_aload_n hx hb dX9_failedCommand_18 rfl (lv_at hl 0 rfl) ?_
      refine va_get (D := fw_D E) (ci := 7) (v := .int (μ 0 10 8)) (C := RX9) (T := TX9) (N := 9) hx hb hU inU9 hown hK (fw_at hP (fw_V0 (f := 10) (by decide) (by decide))) 0 rfl rfl 8 (by decide) (hU (Cond.fieldLink RX9 51 "LaundryService" "keptFailedCommand" "I") m_201) (fun _ h9 => h9) rfl dX9_failedCommand_19 ?_
      refine W.widen (k := 1) (n := 6) (Nat.le_of_ble_eq_true rfl) (Nat.le_of_ble_eq_true rfl) (vx_ret ?_)
      exact W.iret (v := (μ 0 10 8)) hx hb hr (fw_xw (mk := Value.int) h hP hS) hS.2.2 dX9_failedCommand_22
    · rw [if_neg c1] at h
      exact fw_throwNW hx hb hst hown hU hSt hP hS (m_687) (m_29) (List.mem_of_getElem? (i := 11) rfl) thr_158 (hl.1.trans hml.symm) dX9_failedCommand_7 dX9_failedCommand_10 dX9_failedCommand_11 dX9_failedCommand_14 dX9_failedCommand_17 hex (Nat.le_of_ble_eq_true rfl) (Nat.le_of_ble_eq_true rfl) (Nat.le_of_ble_eq_true rfl) (Nat.le_of_ble_eq_true rfl) hlocks h (by decide) rfl (Nat.le_of_ble_eq_true rfl) (Nat.le_of_ble_eq_true rfl)
  subst ha
  have hl := lv_entry ([.ref (fw_ad E 0 10)]) (n := 1) (Nat.le_of_ble_eq_true rfl)
  rw [lg_entry_eq]
  generalize (lg_sl ([.ref (fw_ad E 0 10)]) ++ List.replicate (1 - (lg_sl ([.ref (fw_ad E 0 10)])).length) Slot.unset).toArray = ls at hl ⊢
  exact EN s.heap [] ls hP va_S.rf hl
