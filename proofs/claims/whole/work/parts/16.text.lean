/-! laid by wip/whole/lay2.py -/
def f_X9_runCommands (μ : fw_M) : Option (fw_M × Int32 × Nat) :=
  fw_b2 (f_X1_parse μ) (fun μ1 r1 =>
  fw_b2 (f_X1_empty μ1) (fun μ2 r2 =>
  if r1 = 0 then
    fw_l (fw_u μ2 0 10 7 (μ2 0 13 2)) (fun μ4 =>
    some (μ4, 0, 2))
  else
    fw_b2 (f_X3_prepare μ2 0) (fun μ5 r5 =>
    fw_b2 (f_X9_carryOutUntilFault μ5) (fun μ6 r6 =>
    if (μ6 0 13 4) ≤ r6 then
      fw_b2 (f_X3_keepPrepared μ6) (fun μ8 r8 =>
      some (μ8, (μ8 0 13 4), 0))
    else
      fw_b2 (f_X3_takePreparedBack μ6 0) (fun μ9 r9 =>
      fw_l (fw_u μ9 0 10 8 r6) (fun μ10 =>
      some (μ10, 0, 4)))))))
set_option maxHeartbeats 4000000 in
set_option maxRecDepth 100000 in
theorem k_X9_runCommands (l : Launch) (hst : l.stackTraces = false) {E : fw_E} {o : Int64} {d : UInt64} (hE : fw_ok E) {μ μ' : fw_M} {r : Int32} {k : Nat} (h : f_X9_runCommands μ = some (μ', r, k)) : vx_Met l yX9_runCommands (fw_ws yX9_runCommands cX9_runCommands 3 (some .int)) ({ frames := 8, cells := 1, slots := 6, locals := 174 } : Room) (va_Pc [.ref (fw_ad E 0 10)] (fw_Pre E o d μ)) (fw_QR E o d k (some (.int r)) μ') (fw_XC E o d k μ') 1 6 (fw_A E) := by
  refine vx_ofW (cc := cX9_runCommands) (maxL := 3) (ret := (some .int)) (by decide) rfl ?_
  intro p e s m args below meth c s₁ B hml hex hv
  obtain ⟨ha, hK, hP, hSt⟩ := hv
  have hx := B.exec
  have hb := B.bytes
  have hr := B.returns
  have hts := atoms_spec (ws := fw_ws yX9_runCommands cX9_runCommands 3 (some .int)) B.pre
  have hU : ∀ w ∈ fw_U, w.before args s = true := fun w hw => hts w (List.mem_cons_of_mem _ hw)
  have hown : s.vm.findClass RX9 = some m.cls := findClass_of_methodNamed B.named
  have hlocks := B.notSynchronized
  have EN : ∀ (H : Heap) (locs : List Loc) (ls : Array Slot), fw_P E o d μ H → va_S (fw_A E) s.heap H locs → lv_has ls 3 [(0, .ref (fw_ad E 0 10))] → W p l e (headSpec (fw_ws yX9_runCommands cX9_runCommands 3 (some .int)) ({ frames := 8, cells := 1, slots := 6, locals := 174 } : Room)).room s m args below meth c H locs 0 0 (vx_MQ below (fw_QR E o d k (some (.int r)) μ') (fw_XC E o d k μ') args s 1 6 (fw_A E)) (F0 m 0 ls []) := by
    intro H locs ls hP hS hl
    unfold f_X9_runCommands at h
    refine lv_aload_n hx hb dX9_runCommands_0 rfl (lv_at hl 0 rfl) ?_
    refine va_get (D := fw_D E) (ci := 7) (v := .ref (fw_ad E 0 13)) (C := RX9) (T := TX9) (N := 9) hx hb hU inU9 hown hK (fw_at hP (fw_V0 (f := 10) (by decide) (by decide))) 0 rfl rfl 5 (by decide) (hU (Cond.fieldLink RX9 36 "LaundryService" "input" "LLaundryService$CommandText;") m_198) (fun _ h9 => h9) rfl dX9_runCommands_1 ?_
    obtain ⟨μ1, r1, hc1, h⟩ := fw_b2_e h
    refine fw_ret (va_runV (As := []) (rest := []) ⟨hx, hb, hml, hown, hU⟩ (k_X1_parse l hE hc1) (cwV 0 hU (fw_gV m_929 m_930 m_931 m_4 m_932) rfl rfl rfl (by decide +kernel) ⟨(Nat.le_of_ble_eq_true rfl), (Nat.le_of_ble_eq_true rfl)⟩) ⟨fw_blind, fw_recv hK hP (fw_V0 (f := 13) (by decide) (by decide)) rfl rfl, fun U hU9 hW9 => ⟨rfl, fw_pre hK hP hSt hS U hU9 hW9⟩⟩ rfl rfl hl.1 rfl (lv_room (Nat.le_of_ble_eq_true rfl)) dX9_runCommands_4 ⟨Nat.zero_le _, Nat.zero_le _⟩) hS (fun H locs hP hS => ?_)
    refine lv_istore_n (lv' := [(1, .int r1), (0, .ref (fw_ad E 0 10))]) hx hb dX9_runCommands_7 rfl hl (by decide) rfl (fun ls hl => ?_)
    refine lv_aload_n hx hb dX9_runCommands_8 rfl (lv_at hl 1 rfl) ?_
    refine va_get (D := fw_D E) (ci := 7) (v := .ref (fw_ad E 0 13)) (C := RX9) (T := TX9) (N := 9) hx hb hU inU9 hown hK (fw_at hP (fw_V0 (f := 10) (by decide) (by decide))) 0 rfl rfl 5 (by decide) (hU (Cond.fieldLink RX9 36 "LaundryService" "input" "LLaundryService$CommandText;") m_198) (fun _ h9 => h9) rfl dX9_runCommands_9 ?_
    obtain ⟨μ2, r2, hc2, h⟩ := fw_b2_e h
    refine fw_retv (va_runV (As := []) (rest := []) ⟨hx, hb, hml, hown, hU⟩ (k_X1_empty l hE hc2) (cwV 0 hU (fw_gV m_1008 m_1009 m_1010 m_4 m_1011) rfl rfl rfl (by decide +kernel) ⟨(Nat.le_of_ble_eq_true rfl), (Nat.le_of_ble_eq_true rfl)⟩) ⟨fw_blind, fw_recv hK hP (fw_V0 (f := 13) (by decide) (by decide)) rfl rfl, fun U hU9 hW9 => ⟨rfl, fw_pre hK hP hSt hS U hU9 hW9⟩⟩ rfl rfl hl.1 rfl (lv_room (Nat.le_of_ble_eq_true rfl)) dX9_runCommands_12 ⟨Nat.zero_le _, Nat.zero_le _⟩) hS (fun H locs hP hS => ?_)
    refine lv_iload_n hx hb dX9_runCommands_15 rfl (lv_at hl 0 rfl) ?_
    refine lv_if_ne (tgt := 41) hx hb dX9_runCommands_16 (by decide) (fun c3 => ?_) (fun c3 => ?_)
    · rw [if_neg c3] at h
      refine lv_aload_n hx hb dX9_runCommands_41 rfl (lv_at hl 1 rfl) ?_
      refine va_get (D := fw_D E) (ci := 7) (v := .ref (fw_ad E 0 11)) (C := RX9) (T := TX9) (N := 9) hx hb hU inU9 hown hK (fw_at hP (fw_V0 (f := 10) (by decide) (by decide))) 0 rfl rfl 4 (by decide) (hU (Cond.fieldLink RX9 29 "LaundryService" "history" "LLaundryService$History;") m_197) (fun _ h9 => h9) rfl dX9_runCommands_42 ?_
      refine lv_aload_n hx hb dX9_runCommands_45 rfl (lv_at hl 1 rfl) ?_
      refine va_get (D := fw_D E) (ci := 7) (v := .ref (fw_ad E 0 0)) (C := RX9) (T := TX9) (N := 9) hx hb hU inU9 hown hK (fw_at hP (fw_V0 (f := 10) (by decide) (by decide))) 0 rfl rfl 0 (by decide) (hU (Cond.fieldLink RX9 12 "LaundryService" "state" "LLaundryService$State;") m_193) (fun _ h9 => h9) rfl dX9_runCommands_46 ?_
      obtain ⟨μ5, r5, hc5, h⟩ := fw_b2_e h
      refine fw_retv (va_runV (As := [.ref (fw_ad E 0 0)]) (rest := []) ⟨hx, hb, hml, hown, hU⟩ (k_X3_prepare l hE (by decide) hc5) (cwV 1 hU (fw_gV m_1013 m_513 m_514 m_3 m_515) rfl rfl rfl (by decide +kernel) ⟨(Nat.le_of_ble_eq_true rfl), (Nat.le_of_ble_eq_true rfl)⟩) ⟨fw_blind, fw_recv hK hP (fw_V0 (f := 11) (by decide) (by decide)) rfl rfl, fun U hU9 hW9 => ⟨rfl, fw_pre hK hP hSt hS U hU9 hW9⟩⟩ rfl rfl hl.1 rfl (lv_room (Nat.le_of_ble_eq_true rfl)) dX9_runCommands_49 ⟨Nat.zero_le _, Nat.zero_le _⟩) hS (fun H locs hP hS => ?_)
      refine lv_aload_n hx hb dX9_runCommands_52 rfl (lv_at hl 1 rfl) ?_
      obtain ⟨μ6, r6, hc6, h⟩ := fw_b2_e h
      refine fw_ret (va_runV (As := []) (rest := []) ⟨hx, hb, hml, hown, hU⟩ (k_X9_carryOutUntilFault l hE hc6) (cwV 0 hU (fw_gV m_1014 m_1016 ms_7 m_1 m_1017) rfl rfl rfl (by decide +kernel) ⟨(Nat.le_of_ble_eq_true rfl), (Nat.le_of_ble_eq_true rfl)⟩) ⟨fw_blind, fw_recv hK hP (fw_V0 (f := 10) (by decide) (by decide)) rfl rfl, fun U hU9 hW9 => ⟨rfl, fw_pre hK hP hSt hS U hU9 hW9⟩⟩ rfl rfl hl.1 rfl (lv_room (Nat.le_of_ble_eq_true rfl)) dX9_runCommands_53 ⟨Nat.zero_le _, Nat.zero_le _⟩) hS (fun H locs hP hS => ?_)
      refine lv_istore_n (lv' := [(2, .int r6), (1, .int r1), (0, .ref (fw_ad E 0 10))]) hx hb dX9_runCommands_56 rfl hl (by decide) rfl (fun ls hl => ?_)
      refine lv_iload_n hx hb dX9_runCommands_57 rfl (lv_at hl 0 rfl) ?_
      refine lv_aload_n hx hb dX9_runCommands_58 rfl (lv_at hl 2 rfl) ?_
      refine va_get (D := fw_D E) (ci := 7) (v := .ref (fw_ad E 0 13)) (C := RX9) (T := TX9) (N := 9) hx hb hU inU9 hown hK (fw_at hP (fw_V0 (f := 10) (by decide) (by decide))) 0 rfl rfl 5 (by decide) (hU (Cond.fieldLink RX9 36 "LaundryService" "input" "LLaundryService$CommandText;") m_198) (fun _ h9 => h9) rfl dX9_runCommands_59 ?_
      refine va_get (D := fw_D E) (ci := 3) (v := .int (μ6 0 13 4)) (C := RX1) (T := TX1) (N := 5) hx hb hU inU1 hown hK (fw_at hP (fw_V0 (f := 13) (by decide) (by decide))) 0 rfl rfl 4 (by decide) (hU (Cond.fieldLink RX9 279 "LaundryService$CommandText" "commandCount" "I") m_166) (fun _ h9 => h9) rfl dX9_runCommands_62 ?_
      refine lv_icmp_ge (tgt := 95) hx hb dX9_runCommands_65 (by decide) (fun c7 => ?_) (fun c7 => ?_)
      · rw [if_pos c7] at h
        refine lv_aload_n hx hb dX9_runCommands_95 rfl (lv_at hl 2 rfl) ?_
        refine va_get (D := fw_D E) (ci := 7) (v := .ref (fw_ad E 0 11)) (C := RX9) (T := TX9) (N := 9) hx hb hU inU9 hown hK (fw_at hP (fw_V0 (f := 10) (by decide) (by decide))) 0 rfl rfl 4 (by decide) (hU (Cond.fieldLink RX9 29 "LaundryService" "history" "LLaundryService$History;") m_197) (fun _ h9 => h9) rfl dX9_runCommands_96 ?_
        obtain ⟨μ8, r8, hc8, h⟩ := fw_b2_e h
        refine fw_retv (va_runV (As := []) (rest := []) ⟨hx, hb, hml, hown, hU⟩ (k_X3_keepPrepared l hE hc8) (cwV 0 hU (fw_gV m_1042 m_522 m_523 m_3 m_524) rfl rfl rfl (by decide +kernel) ⟨(Nat.le_of_ble_eq_true rfl), (Nat.le_of_ble_eq_true rfl)⟩) ⟨fw_blind, fw_recv hK hP (fw_V0 (f := 11) (by decide) (by decide)) rfl rfl, fun U hU9 hW9 => ⟨rfl, fw_pre hK hP hSt hS U hU9 hW9⟩⟩ rfl rfl hl.1 rfl (lv_room (Nat.le_of_ble_eq_true rfl)) dX9_runCommands_99 ⟨Nat.zero_le _, Nat.zero_le _⟩) hS (fun H locs hP hS => ?_)
        refine lv_aload_n hx hb dX9_runCommands_102 rfl (lv_at hl 2 rfl) ?_
        refine va_get (D := fw_D E) (ci := 7) (v := .ref (fw_ad E 0 13)) (C := RX9) (T := TX9) (N := 9) hx hb hU inU9 hown hK (fw_at hP (fw_V0 (f := 10) (by decide) (by decide))) 0 rfl rfl 5 (by decide) (hU (Cond.fieldLink RX9 36 "LaundryService" "input" "LLaundryService$CommandText;") m_198) (fun _ h9 => h9) rfl dX9_runCommands_103 ?_
        refine va_get (D := fw_D E) (ci := 3) (v := .int (μ8 0 13 4)) (C := RX1) (T := TX1) (N := 5) hx hb hU inU1 hown hK (fw_at hP (fw_V0 (f := 13) (by decide) (by decide))) 0 rfl rfl 4 (by decide) (hU (Cond.fieldLink RX9 279 "LaundryService$CommandText" "commandCount" "I") m_166) (fun _ h9 => h9) rfl dX9_runCommands_106 ?_
        refine W.widen (k := 1) (n := 6) (Nat.le_of_ble_eq_true rfl) (Nat.le_of_ble_eq_true rfl) (vx_ret ?_)
        exact W.iret (v := (μ8 0 13 4)) hx hb hr (fw_xw (mk := Value.int) h hP hS) hS.2.2 dX9_runCommands_109
      · rw [if_neg c7] at h
        refine lv_aload_n hx hb dX9_runCommands_68 rfl (lv_at hl 2 rfl) ?_
        refine va_get (D := fw_D E) (ci := 7) (v := .ref (fw_ad E 0 11)) (C := RX9) (T := TX9) (N := 9) hx hb hU inU9 hown hK (fw_at hP (fw_V0 (f := 10) (by decide) (by decide))) 0 rfl rfl 4 (by decide) (hU (Cond.fieldLink RX9 29 "LaundryService" "history" "LLaundryService$History;") m_197) (fun _ h9 => h9) rfl dX9_runCommands_69 ?_
        refine lv_aload_n hx hb dX9_runCommands_72 rfl (lv_at hl 2 rfl) ?_
        refine va_get (D := fw_D E) (ci := 7) (v := .ref (fw_ad E 0 0)) (C := RX9) (T := TX9) (N := 9) hx hb hU inU9 hown hK (fw_at hP (fw_V0 (f := 10) (by decide) (by decide))) 0 rfl rfl 0 (by decide) (hU (Cond.fieldLink RX9 12 "LaundryService" "state" "LLaundryService$State;") m_193) (fun _ h9 => h9) rfl dX9_runCommands_73 ?_
        obtain ⟨μ9, r9, hc9, h⟩ := fw_b2_e h
        refine fw_retv (va_runV (As := [.ref (fw_ad E 0 0)]) (rest := []) ⟨hx, hb, hml, hown, hU⟩ (k_X3_takePreparedBack l hE (by decide) hc9) (cwV 1 hU (fw_gV m_1037 m_1038 m_1039 m_3 m_1040) rfl rfl rfl (by decide +kernel) ⟨(Nat.le_of_ble_eq_true rfl), (Nat.le_of_ble_eq_true rfl)⟩) ⟨fw_blind, fw_recv hK hP (fw_V0 (f := 11) (by decide) (by decide)) rfl rfl, fun U hU9 hW9 => ⟨rfl, fw_pre hK hP hSt hS U hU9 hW9⟩⟩ rfl rfl hl.1 rfl (lv_room (Nat.le_of_ble_eq_true rfl)) dX9_runCommands_76 ⟨Nat.zero_le _, Nat.zero_le _⟩) hS (fun H locs hP hS => ?_)
        refine lv_aload_n hx hb dX9_runCommands_79 rfl (lv_at hl 2 rfl) ?_
        refine lv_iload_n hx hb dX9_runCommands_80 rfl (lv_at hl 0 rfl) ?_
        refine fw_put (ci := 7) (v := .int r6) (ty := .int) (C := RX9) (T := TX9) (N := 9) hx hb hU inU9 tyX9 tyX9_ok nmX9 hown hK hP hE hS (fw_V0 (f := 10) (by decide) (by decide)) rfl rfl 8 (by decide) (hU (Cond.fieldLink RX9 51 "LaundryService" "keptFailedCommand" "I") m_201) (fun _ h9 => h9) rfl (by decide +kernel) rfl rfl (Nat.le_of_ble_eq_true rfl) 8 r6 (by rw [fw_u_c]; rfl) dX9_runCommands_81 (fun H locs hP hS => ?_)
        obtain ⟨μ10, eμ10, h⟩ := fw_l_e h
        rw [← eμ10] at hP
        exact fw_throwW hx hb hst hown hU hSt hP hS (m_475) (m_18) (List.mem_of_getElem? (i := 9) rfl) thr_146 (hl.1.trans hml.symm) dX9_runCommands_84 dX9_runCommands_87 dX9_runCommands_88 dX9_runCommands_91 dX9_runCommands_94 hex (Nat.le_of_ble_eq_true rfl) (Nat.le_of_ble_eq_true rfl) (Nat.le_of_ble_eq_true rfl) (Nat.le_of_ble_eq_true rfl) hlocks h (by decide) rfl (Nat.le_of_ble_eq_true rfl) (Nat.le_of_ble_eq_true rfl)
    · rw [if_pos c3] at h
      refine lv_aload_n hx hb dX9_runCommands_19 rfl (lv_at hl 1 rfl) ?_
      refine lv_aload_n hx hb dX9_runCommands_20 rfl (lv_at hl 1 rfl) ?_
      refine va_get (D := fw_D E) (ci := 7) (v := .ref (fw_ad E 0 13)) (C := RX9) (T := TX9) (N := 9) hx hb hU inU9 hown hK (fw_at hP (fw_V0 (f := 10) (by decide) (by decide))) 0 rfl rfl 5 (by decide) (hU (Cond.fieldLink RX9 36 "LaundryService" "input" "LLaundryService$CommandText;") m_198) (fun _ h9 => h9) rfl dX9_runCommands_21 ?_
      refine va_get (D := fw_D E) (ci := 3) (v := .int (μ2 0 13 2)) (C := RX1) (T := TX1) (N := 5) hx hb hU inU1 hown hK (fw_at hP (fw_V0 (f := 13) (by decide) (by decide))) 0 rfl rfl 2 (by decide) (hU (Cond.fieldLink RX9 264 "LaundryService$CommandText" "position" "I") m_162) (fun _ h9 => h9) rfl dX9_runCommands_24 ?_
      refine fw_put (ci := 7) (v := .int (μ2 0 13 2)) (ty := .int) (C := RX9) (T := TX9) (N := 9) hx hb hU inU9 tyX9 tyX9_ok nmX9 hown hK hP hE hS (fw_V0 (f := 10) (by decide) (by decide)) rfl rfl 7 (by decide) (hU (Cond.fieldLink RX9 47 "LaundryService" "keptErrorPosition" "I") m_200) (fun _ h9 => h9) rfl (by decide +kernel) rfl rfl (Nat.le_of_ble_eq_true rfl) 7 (μ2 0 13 2) (by rw [fw_u_c]; rfl) dX9_runCommands_27 (fun H locs hP hS => ?_)
      obtain ⟨μ4, eμ4, h⟩ := fw_l_e h
      rw [← eμ4] at hP
      exact fw_throwW hx hb hst hown hU hSt hP hS (m_457) (m_17) (List.mem_of_getElem? (i := 8) rfl) thr_271 (hl.1.trans hml.symm) dX9_runCommands_30 dX9_runCommands_33 dX9_runCommands_34 dX9_runCommands_37 dX9_runCommands_40 hex (Nat.le_of_ble_eq_true rfl) (Nat.le_of_ble_eq_true rfl) (Nat.le_of_ble_eq_true rfl) (Nat.le_of_ble_eq_true rfl) hlocks h (by decide) rfl (Nat.le_of_ble_eq_true rfl) (Nat.le_of_ble_eq_true rfl)
  subst ha
  have hl := lv_entry ([.ref (fw_ad E 0 10)]) (n := 3) (Nat.le_of_ble_eq_true rfl)
  rw [lg_entry_eq]
  generalize (lg_sl ([.ref (fw_ad E 0 10)]) ++ List.replicate (3 - (lg_sl ([.ref (fw_ad E 0 10)])).length) Slot.unset).toArray = ls at hl ⊢
  exact EN s.heap [] ls hP va_S.rf hl
