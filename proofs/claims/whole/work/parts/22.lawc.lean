/-! the law's cases and loop, laid by wip/whole/lay3.py -/
set_option maxHeartbeats 4000000 in
set_option maxRecDepth 100000 in
theorem law_C1577 {p : Program} {l : Launch} {e : Env} {s : State} {m : MethodId} {below : List Frame} {meth : Method} {c : Code} {b L : Nat} {xs : Nat → Int32} {E : fw_E} {Q : State → Prop} (C0 : lc_At p l s m meth c b L xs E) (n : Nat) (K : fw_M → Int64 → UInt64 → Int32 → Option Unit) (ih : ∀ (μ : fw_M) (o : Int64) (d : UInt64) (x5 : Int32) (H : Heap) (locs : List Loc) (ls : Array Slot) (cells slots : Nat), K μ o d x5 = some () → fw_P E o d μ H → va_S (fw_A E) s.heap H locs → lv_has ls 9 [(0, .ref b), (1, .ref (fw_ad E 0 10)), (2, .ref (fw_ad E 0 18)), (3, .ref (fw_ad E 0 27)), (4, .ref (fw_ad E 0 28)), (5, .int x5)] → cells + 4 * n ≤ 603072 → slots + 24 * n ≤ 7182442 → W p l e room_1 s m #[Value.ref b] below meth c H locs cells slots Q (F0 m 28 ls [])) : ∀ (μ : fw_M) (o : Int64) (d : UInt64) (x5 : Int32) (H : Heap) (locs : List Loc) (ls : Array Slot) (cells slots : Nat), f_law_C1577 K xs L μ o d x5 = some () → fw_P E o d μ H → va_S (fw_A E) s.heap H locs → lv_has ls 9 [(0, .ref b), (1, .ref (fw_ad E 0 10)), (2, .ref (fw_ad E 0 18)), (3, .ref (fw_ad E 0 27)), (4, .ref (fw_ad E 0 28)), (5, .int x5)] → cells + 4 * (n + 1) ≤ 603072 → slots + 24 * (n + 1) ≤ 7182442 → W p l e room_1 s m #[Value.ref b] below meth c H locs cells slots Q (F0 m 1577 ls []) := by
  obtain ⟨hx, hb, hml, hown, hU, hK, hSt, hN2, hE, hst, hX, hbl, hbA, hz⟩ := C0
  intro μ o d x5 H locs ls cells slots h hP hS hl hc1 hc2
  unfold f_law_C1577 at h
  refine lv_aload_n hx hb dL_law_1577 rfl (lv_at hl 1 rfl) ?_
  refine lv_aload_n hx hb dL_law_1578 rfl (lv_at hl 0 rfl) ?_
  refine lv_iload hx hb dL_law_1579 (lv_at hl 5 rfl) ?_
  refine lv_iconst (v := (1 : Int32)) hx hb dL_law_1581 (by decide) ?_
  refine lv_iadd hx hb dL_law_1582 ?_
  obtain ⟨g188, h⟩ := fw_g_e h
  refine va_sld hx hb hX hbl hbA hS (fw_in_e g188) dL_law_1583 ?_
  refine lv_aload_n hx hb dL_law_1584 rfl (lv_at hl 3 rfl) ?_
  obtain ⟨μ189, o189, d189, r189, hc189, h⟩ := fw_b4_e h
  refine fw_retL (vx_runSW (As := [.ref (fw_ad E 0 10), .int (xs (x5 + (1 : Int32)).toNatClampNeg), .ref (fw_ad E 0 27)]) (rest := []) ⟨hx, hb, hml, hown, hU⟩ (k_L_coloursIn l hst hE (xs (x5 + (1 : Int32)).toNatClampNeg) hc189) (vx_cwSW 3 hU (fw_gSW m_783 m_784 m_0 m_785) rfl rfl rfl (by decide +kernel) ⟨(Nat.le_of_ble_eq_true rfl), (Nat.le_of_ble_eq_true rfl)⟩) ⟨fw_blind2, fun U hU9 hW9 => ⟨rfl, fw_pre hK hP hSt hS U hU9 hW9, fw_S2_go hN2 hW9⟩⟩ rfl rfl hl.1 rfl (lv_room (Nat.le_of_ble_eq_true rfl)) dL_law_1585 ⟨by show _ ≤ 603072; omega, by show _ ≤ 7182442; omega⟩) hS (fun H locs hP hS => ?_)
  refine lv_istore (lv' := [(6, .int r189), (0, .ref b), (1, .ref (fw_ad E 0 10)), (2, .ref (fw_ad E 0 18)), (3, .ref (fw_ad E 0 27)), (4, .ref (fw_ad E 0 28)), (5, .int x5)]) hx hb dL_law_1588 hl (by decide) rfl (fun ls hl => ?_)
  refine lv_aload_n hx hb dL_law_1590 rfl (lv_at hl 3 rfl) ?_
  refine lv_aload_n hx hb dL_law_1591 rfl (lv_at hl 1 rfl) ?_
  refine lv_iload hx hb dL_law_1592 (lv_at hl 6 rfl) ?_
  refine lv_iconst (v := (1 : Int32)) hx hb dL_law_1594 (by decide) ?_
  refine lv_iadd hx hb dL_law_1595 ?_
  refine va_sld hx hb hX hbl hbA hS (fw_in_e g188) dL_law_1596 ?_
  obtain ⟨μ190, r190, hc190, h⟩ := fw_b2_e h
  refine fw_ret (va_runV (As := [.int (xs (x5 + (1 : Int32)).toNatClampNeg)]) (rest := []) ⟨hx, hb, hml, hown, hU⟩ (k_X10_coloursIn l hE (xs (x5 + (1 : Int32)).toNatClampNeg) hc190) (cwV 1 hU (fw_gV m_1416 m_1417 m_1418 m_9 m_1419) rfl rfl rfl (by decide +kernel) ⟨(Nat.le_of_ble_eq_true rfl), (Nat.le_of_ble_eq_true rfl)⟩) ⟨fw_blind, fw_recv hK hP (fw_V0 (f := 18) (by decide) (by decide)) rfl rfl, fun U hU9 hW9 => ⟨rfl, fw_pre hK hP hSt hS U hU9 hW9⟩⟩ rfl rfl hl.1 rfl (lv_room (Nat.le_of_ble_eq_true rfl)) dL_law_1597 ⟨by show _ ≤ 603072; omega, by show _ ≤ 7182442; omega⟩) hS (fun H locs hP hS => ?_)
  refine lv_istore (lv' := [(7, .int r190), (6, .int r189), (0, .ref b), (1, .ref (fw_ad E 0 10)), (2, .ref (fw_ad E 0 18)), (3, .ref (fw_ad E 0 27)), (4, .ref (fw_ad E 0 28)), (5, .int x5)]) hx hb dL_law_1600 hl (by decide) rfl (fun ls hl => ?_)
  refine lv_aload_n hx hb dL_law_1602 rfl (lv_at hl 4 rfl) ?_
  obtain ⟨r191, hc191, h⟩ := fw_b1_e h
  refine fw_ret (va_runV (As := []) (rest := []) ⟨hx, hb, hml, hown, hU⟩ (k_X10_thrown l hE hc191) (cwV 0 hU (fw_gV m_1178 m_1179 m_1180 m_9 m_1181) rfl rfl rfl (by decide +kernel) ⟨(Nat.le_of_ble_eq_true rfl), (Nat.le_of_ble_eq_true rfl)⟩) ⟨fw_blind, fw_recv hK hP (fw_V0 (f := 18) (by decide) (by decide)) rfl rfl, fun U hU9 hW9 => ⟨rfl, fw_pre hK hP hSt hS U hU9 hW9⟩⟩ rfl rfl hl.1 rfl (lv_room (Nat.le_of_ble_eq_true rfl)) dL_law_1603 ⟨by show _ ≤ 603072; omega, by show _ ≤ 7182442; omega⟩) hS (fun H locs hP hS => ?_)
  refine lv_iload hx hb dL_law_1606 (lv_at hl 1 rfl) ?_
  refine lv_icmp_eq (tgt := 1613) hx hb dL_law_1608 (by decide) (fun c192 => ?_) (fun c192 => ?_)
  · rw [if_pos c192] at h
    refine lv_iload hx hb dL_law_1613 (lv_at hl 1 rfl) ?_
    refine lv_if_ne (tgt := 1630) hx hb dL_law_1615 (by decide) (fun c193 => ?_) (fun c193 => ?_)
    · rw [if_neg c193] at h
      refine lv_goto (tgt := 2765) hx hb dL_law_1630 (by decide) ?_
      refine lv_iinc (v := (x5 + (5 : Int32))) (lv' := [(5, .int (x5 + (5 : Int32))), (7, .int r190), (6, .int r189), (0, .ref b), (1, .ref (fw_ad E 0 10)), (2, .ref (fw_ad E 0 18)), (3, .ref (fw_ad E 0 27)), (4, .ref (fw_ad E 0 28))]) hx hb dL_law_2765 hl (k := 7) rfl rfl (by decide) rfl (fun ls hl => ?_)
      refine lv_goto (tgt := 28) hx hb dL_law_2768 (by decide) ?_
      exact ih _ _ _ _ H locs ls _ _ h hP hS (lv_sub hl [3, 4, 5, 6, 7, 0] rfl) (by omega) (by omega)
    · rw [if_pos c193] at h
      refine lv_aload_n hx hb dL_law_1618 rfl (lv_at hl 5 rfl) ?_
      refine lv_iconst (v := (0 : Int32)) hx hb dL_law_1619 (by decide) ?_
      refine va_lald (D := fw_D E) hx hb hK (fw_at hP (fw_V0 (f := 27) (by decide) (by decide))) 0 6 rfl rfl (fw_in_e (n := 1) (by decide)) dL_law_1620 ?_
      refine lv_iload hx hb dL_law_1621 (lv_at hl 0 rfl) ?_
      refine lv_i2l (v := r190.toInt64) hx hb dL_law_1623 rfl ?_
      refine W.lcmp hx hb dL_law_1624 ?_
      refine lv_if_eq (tgt := 1630) hx hb dL_law_1625 (by decide) (fun c194 => ?_) (fun c194 => ?_)
      · rw [if_pos c194] at h
        refine lv_goto (tgt := 2765) hx hb dL_law_1630 (by decide) ?_
        refine lv_iinc (v := (x5 + (5 : Int32))) (lv' := [(5, .int (x5 + (5 : Int32))), (7, .int r190), (6, .int r189), (0, .ref b), (1, .ref (fw_ad E 0 10)), (2, .ref (fw_ad E 0 18)), (3, .ref (fw_ad E 0 27)), (4, .ref (fw_ad E 0 28))]) hx hb dL_law_2765 hl (k := 7) rfl rfl (by decide) rfl (fun ls hl => ?_)
        refine lv_goto (tgt := 28) hx hb dL_law_2768 (by decide) ?_
        exact ih _ _ _ _ H locs ls _ _ h hP hS (lv_sub hl [3, 4, 5, 6, 7, 0] rfl) (by omega) (by omega)
      · rw [if_neg c194] at h
        refine lv_iconst (v := (0 : Int32)) hx hb dL_law_1628 (by decide) ?_
        cases h
  · rw [if_neg c192] at h
    refine lv_iconst (v := (0 : Int32)) hx hb dL_law_1611 (by decide) ?_
    cases h
set_option maxHeartbeats 4000000 in
set_option maxRecDepth 100000 in
theorem law_C1633 {p : Program} {l : Launch} {e : Env} {s : State} {m : MethodId} {below : List Frame} {meth : Method} {c : Code} {b L : Nat} {xs : Nat → Int32} {E : fw_E} {Q : State → Prop} (C0 : lc_At p l s m meth c b L xs E) (n : Nat) (K : fw_M → Int64 → UInt64 → Int32 → Option Unit) (ih : ∀ (μ : fw_M) (o : Int64) (d : UInt64) (x5 : Int32) (H : Heap) (locs : List Loc) (ls : Array Slot) (cells slots : Nat), K μ o d x5 = some () → fw_P E o d μ H → va_S (fw_A E) s.heap H locs → lv_has ls 9 [(0, .ref b), (1, .ref (fw_ad E 0 10)), (2, .ref (fw_ad E 0 18)), (3, .ref (fw_ad E 0 27)), (4, .ref (fw_ad E 0 28)), (5, .int x5)] → cells + 4 * n ≤ 603072 → slots + 24 * n ≤ 7182442 → W p l e room_1 s m #[Value.ref b] below meth c H locs cells slots Q (F0 m 28 ls [])) : ∀ (μ : fw_M) (o : Int64) (d : UInt64) (x5 : Int32) (H : Heap) (locs : List Loc) (ls : Array Slot) (cells slots : Nat), f_law_C1633 K xs L μ o d x5 = some () → fw_P E o d μ H → va_S (fw_A E) s.heap H locs → lv_has ls 9 [(0, .ref b), (1, .ref (fw_ad E 0 10)), (2, .ref (fw_ad E 0 18)), (3, .ref (fw_ad E 0 27)), (4, .ref (fw_ad E 0 28)), (5, .int x5)] → cells + 4 * (n + 1) ≤ 603072 → slots + 24 * (n + 1) ≤ 7182442 → W p l e room_1 s m #[Value.ref b] below meth c H locs cells slots Q (F0 m 1633 ls []) := by
  obtain ⟨hx, hb, hml, hown, hU, hK, hSt, hN2, hE, hst, hX, hbl, hbA, hz⟩ := C0
  intro μ o d x5 H locs ls cells slots h hP hS hl hc1 hc2
  unfold f_law_C1633 at h
  refine lv_aload_n hx hb dL_law_1633 rfl (lv_at hl 1 rfl) ?_
  refine lv_aload_n hx hb dL_law_1634 rfl (lv_at hl 0 rfl) ?_
  refine lv_iload hx hb dL_law_1635 (lv_at hl 5 rfl) ?_
  refine lv_iconst (v := (1 : Int32)) hx hb dL_law_1637 (by decide) ?_
  refine lv_iadd hx hb dL_law_1638 ?_
  obtain ⟨g195, h⟩ := fw_g_e h
  refine va_sld hx hb hX hbl hbA hS (fw_in_e g195) dL_law_1639 ?_
  refine lv_aload_n hx hb dL_law_1640 rfl (lv_at hl 3 rfl) ?_
  obtain ⟨μ196, o196, d196, r196, hc196, h⟩ := fw_b4_e h
  refine fw_retL (vx_runSW (As := [.ref (fw_ad E 0 10), .int (xs (x5 + (1 : Int32)).toNatClampNeg), .ref (fw_ad E 0 27)]) (rest := []) ⟨hx, hb, hml, hown, hU⟩ (k_L_damage l hst hE (xs (x5 + (1 : Int32)).toNatClampNeg) hc196) (vx_cwSW 3 hU (fw_gSW m_794 m_795 m_0 m_796) rfl rfl rfl (by decide +kernel) ⟨(Nat.le_of_ble_eq_true rfl), (Nat.le_of_ble_eq_true rfl)⟩) ⟨fw_blind2, fun U hU9 hW9 => ⟨rfl, fw_pre hK hP hSt hS U hU9 hW9, fw_S2_go hN2 hW9⟩⟩ rfl rfl hl.1 rfl (lv_room (Nat.le_of_ble_eq_true rfl)) dL_law_1641 ⟨by show _ ≤ 603072; omega, by show _ ≤ 7182442; omega⟩) hS (fun H locs hP hS => ?_)
  refine lv_istore (lv' := [(6, .int r196), (0, .ref b), (1, .ref (fw_ad E 0 10)), (2, .ref (fw_ad E 0 18)), (3, .ref (fw_ad E 0 27)), (4, .ref (fw_ad E 0 28)), (5, .int x5)]) hx hb dL_law_1644 hl (by decide) rfl (fun ls hl => ?_)
  refine lv_aload_n hx hb dL_law_1646 rfl (lv_at hl 3 rfl) ?_
  refine lv_aload_n hx hb dL_law_1647 rfl (lv_at hl 1 rfl) ?_
  refine lv_iload hx hb dL_law_1648 (lv_at hl 6 rfl) ?_
  refine lv_iconst (v := (1 : Int32)) hx hb dL_law_1650 (by decide) ?_
  refine lv_iadd hx hb dL_law_1651 ?_
  refine va_sld hx hb hX hbl hbA hS (fw_in_e g195) dL_law_1652 ?_
  obtain ⟨μ197, r197, hc197, h⟩ := fw_b2_e h
  refine fw_ret (va_runV (As := [.int (xs (x5 + (1 : Int32)).toNatClampNeg)]) (rest := []) ⟨hx, hb, hml, hown, hU⟩ (k_X10_damage l hE (xs (x5 + (1 : Int32)).toNatClampNeg) hc197) (cwV 1 hU (fw_gV m_1420 m_1421 m_1422 m_9 m_1423) rfl rfl rfl (by decide +kernel) ⟨(Nat.le_of_ble_eq_true rfl), (Nat.le_of_ble_eq_true rfl)⟩) ⟨fw_blind, fw_recv hK hP (fw_V0 (f := 18) (by decide) (by decide)) rfl rfl, fun U hU9 hW9 => ⟨rfl, fw_pre hK hP hSt hS U hU9 hW9⟩⟩ rfl rfl hl.1 rfl (lv_room (Nat.le_of_ble_eq_true rfl)) dL_law_1653 ⟨by show _ ≤ 603072; omega, by show _ ≤ 7182442; omega⟩) hS (fun H locs hP hS => ?_)
  refine lv_istore (lv' := [(7, .int r197), (6, .int r196), (0, .ref b), (1, .ref (fw_ad E 0 10)), (2, .ref (fw_ad E 0 18)), (3, .ref (fw_ad E 0 27)), (4, .ref (fw_ad E 0 28)), (5, .int x5)]) hx hb dL_law_1656 hl (by decide) rfl (fun ls hl => ?_)
  refine lv_aload_n hx hb dL_law_1658 rfl (lv_at hl 4 rfl) ?_
  obtain ⟨r198, hc198, h⟩ := fw_b1_e h
  refine fw_ret (va_runV (As := []) (rest := []) ⟨hx, hb, hml, hown, hU⟩ (k_X10_thrown l hE hc198) (cwV 0 hU (fw_gV m_1178 m_1179 m_1180 m_9 m_1181) rfl rfl rfl (by decide +kernel) ⟨(Nat.le_of_ble_eq_true rfl), (Nat.le_of_ble_eq_true rfl)⟩) ⟨fw_blind, fw_recv hK hP (fw_V0 (f := 18) (by decide) (by decide)) rfl rfl, fun U hU9 hW9 => ⟨rfl, fw_pre hK hP hSt hS U hU9 hW9⟩⟩ rfl rfl hl.1 rfl (lv_room (Nat.le_of_ble_eq_true rfl)) dL_law_1659 ⟨by show _ ≤ 603072; omega, by show _ ≤ 7182442; omega⟩) hS (fun H locs hP hS => ?_)
  refine lv_iload hx hb dL_law_1662 (lv_at hl 1 rfl) ?_
  refine lv_icmp_eq (tgt := 1669) hx hb dL_law_1664 (by decide) (fun c199 => ?_) (fun c199 => ?_)
  · rw [if_pos c199] at h
    refine lv_iload hx hb dL_law_1669 (lv_at hl 1 rfl) ?_
    refine lv_if_ne (tgt := 1686) hx hb dL_law_1671 (by decide) (fun c200 => ?_) (fun c200 => ?_)
    · rw [if_neg c200] at h
      refine lv_goto (tgt := 2765) hx hb dL_law_1686 (by decide) ?_
      refine lv_iinc (v := (x5 + (5 : Int32))) (lv' := [(5, .int (x5 + (5 : Int32))), (7, .int r197), (6, .int r196), (0, .ref b), (1, .ref (fw_ad E 0 10)), (2, .ref (fw_ad E 0 18)), (3, .ref (fw_ad E 0 27)), (4, .ref (fw_ad E 0 28))]) hx hb dL_law_2765 hl (k := 7) rfl rfl (by decide) rfl (fun ls hl => ?_)
      refine lv_goto (tgt := 28) hx hb dL_law_2768 (by decide) ?_
      exact ih _ _ _ _ H locs ls _ _ h hP hS (lv_sub hl [3, 4, 5, 6, 7, 0] rfl) (by omega) (by omega)
    · rw [if_pos c200] at h
      refine lv_aload_n hx hb dL_law_1674 rfl (lv_at hl 5 rfl) ?_
      refine lv_iconst (v := (0 : Int32)) hx hb dL_law_1675 (by decide) ?_
      refine va_lald (D := fw_D E) hx hb hK (fw_at hP (fw_V0 (f := 27) (by decide) (by decide))) 0 6 rfl rfl (fw_in_e (n := 1) (by decide)) dL_law_1676 ?_
      refine lv_iload hx hb dL_law_1677 (lv_at hl 0 rfl) ?_
      refine lv_i2l (v := r197.toInt64) hx hb dL_law_1679 rfl ?_
      refine W.lcmp hx hb dL_law_1680 ?_
      refine lv_if_eq (tgt := 1686) hx hb dL_law_1681 (by decide) (fun c201 => ?_) (fun c201 => ?_)
      · rw [if_pos c201] at h
        refine lv_goto (tgt := 2765) hx hb dL_law_1686 (by decide) ?_
        refine lv_iinc (v := (x5 + (5 : Int32))) (lv' := [(5, .int (x5 + (5 : Int32))), (7, .int r197), (6, .int r196), (0, .ref b), (1, .ref (fw_ad E 0 10)), (2, .ref (fw_ad E 0 18)), (3, .ref (fw_ad E 0 27)), (4, .ref (fw_ad E 0 28))]) hx hb dL_law_2765 hl (k := 7) rfl rfl (by decide) rfl (fun ls hl => ?_)
        refine lv_goto (tgt := 28) hx hb dL_law_2768 (by decide) ?_
        exact ih _ _ _ _ H locs ls _ _ h hP hS (lv_sub hl [3, 4, 5, 6, 7, 0] rfl) (by omega) (by omega)
      · rw [if_neg c201] at h
        refine lv_iconst (v := (0 : Int32)) hx hb dL_law_1684 (by decide) ?_
        cases h
  · rw [if_neg c199] at h
    refine lv_iconst (v := (0 : Int32)) hx hb dL_law_1667 (by decide) ?_
    cases h
set_option maxHeartbeats 4000000 in
set_option maxRecDepth 100000 in
theorem law_C1689 {p : Program} {l : Launch} {e : Env} {s : State} {m : MethodId} {below : List Frame} {meth : Method} {c : Code} {b L : Nat} {xs : Nat → Int32} {E : fw_E} {Q : State → Prop} (C0 : lc_At p l s m meth c b L xs E) (n : Nat) (K : fw_M → Int64 → UInt64 → Int32 → Option Unit) (ih : ∀ (μ : fw_M) (o : Int64) (d : UInt64) (x5 : Int32) (H : Heap) (locs : List Loc) (ls : Array Slot) (cells slots : Nat), K μ o d x5 = some () → fw_P E o d μ H → va_S (fw_A E) s.heap H locs → lv_has ls 9 [(0, .ref b), (1, .ref (fw_ad E 0 10)), (2, .ref (fw_ad E 0 18)), (3, .ref (fw_ad E 0 27)), (4, .ref (fw_ad E 0 28)), (5, .int x5)] → cells + 4 * n ≤ 603072 → slots + 24 * n ≤ 7182442 → W p l e room_1 s m #[Value.ref b] below meth c H locs cells slots Q (F0 m 28 ls [])) : ∀ (μ : fw_M) (o : Int64) (d : UInt64) (x5 : Int32) (H : Heap) (locs : List Loc) (ls : Array Slot) (cells slots : Nat), f_law_C1689 K xs L μ o d x5 = some () → fw_P E o d μ H → va_S (fw_A E) s.heap H locs → lv_has ls 9 [(0, .ref b), (1, .ref (fw_ad E 0 10)), (2, .ref (fw_ad E 0 18)), (3, .ref (fw_ad E 0 27)), (4, .ref (fw_ad E 0 28)), (5, .int x5)] → cells + 4 * (n + 1) ≤ 603072 → slots + 24 * (n + 1) ≤ 7182442 → W p l e room_1 s m #[Value.ref b] below meth c H locs cells slots Q (F0 m 1689 ls []) := by
  obtain ⟨hx, hb, hml, hown, hU, hK, hSt, hN2, hE, hst, hX, hbl, hbA, hz⟩ := C0
  intro μ o d x5 H locs ls cells slots h hP hS hl hc1 hc2
  unfold f_law_C1689 at h
  refine lv_aload_n hx hb dL_law_1689 rfl (lv_at hl 1 rfl) ?_
  refine lv_aload_n hx hb dL_law_1690 rfl (lv_at hl 0 rfl) ?_
  refine lv_iload hx hb dL_law_1691 (lv_at hl 5 rfl) ?_
  refine lv_iconst (v := (1 : Int32)) hx hb dL_law_1693 (by decide) ?_
  refine lv_iadd hx hb dL_law_1694 ?_
  obtain ⟨g202, h⟩ := fw_g_e h
  refine va_sld hx hb hX hbl hbA hS (fw_in_e g202) dL_law_1695 ?_
  refine lv_aload_n hx hb dL_law_1696 rfl (lv_at hl 3 rfl) ?_
  obtain ⟨μ203, o203, d203, r203, hc203, h⟩ := fw_b4_e h
  refine fw_retL (vx_runSW (As := [.ref (fw_ad E 0 10), .int (xs (x5 + (1 : Int32)).toNatClampNeg), .ref (fw_ad E 0 27)]) (rest := []) ⟨hx, hb, hml, hown, hU⟩ (k_L_damageByMasks l hst hE (xs (x5 + (1 : Int32)).toNatClampNeg) hc203) (vx_cwSW 3 hU (fw_gSW m_801 m_802 m_0 m_803) rfl rfl rfl (by decide +kernel) ⟨(Nat.le_of_ble_eq_true rfl), (Nat.le_of_ble_eq_true rfl)⟩) ⟨fw_blind2, fun U hU9 hW9 => ⟨rfl, fw_pre hK hP hSt hS U hU9 hW9, fw_S2_go hN2 hW9⟩⟩ rfl rfl hl.1 rfl (lv_room (Nat.le_of_ble_eq_true rfl)) dL_law_1697 ⟨by show _ ≤ 603072; omega, by show _ ≤ 7182442; omega⟩) hS (fun H locs hP hS => ?_)
  refine lv_istore (lv' := [(6, .int r203), (0, .ref b), (1, .ref (fw_ad E 0 10)), (2, .ref (fw_ad E 0 18)), (3, .ref (fw_ad E 0 27)), (4, .ref (fw_ad E 0 28)), (5, .int x5)]) hx hb dL_law_1700 hl (by decide) rfl (fun ls hl => ?_)
  refine lv_aload_n hx hb dL_law_1702 rfl (lv_at hl 3 rfl) ?_
  refine lv_aload_n hx hb dL_law_1703 rfl (lv_at hl 1 rfl) ?_
  refine lv_iload hx hb dL_law_1704 (lv_at hl 6 rfl) ?_
  refine lv_iconst (v := (1 : Int32)) hx hb dL_law_1706 (by decide) ?_
  refine lv_iadd hx hb dL_law_1707 ?_
  refine va_sld hx hb hX hbl hbA hS (fw_in_e g202) dL_law_1708 ?_
  obtain ⟨μ204, r204, hc204, h⟩ := fw_b2_e h
  refine fw_ret (va_runV (As := [.int (xs (x5 + (1 : Int32)).toNatClampNeg)]) (rest := []) ⟨hx, hb, hml, hown, hU⟩ (k_X10_damageByMasks l hE (xs (x5 + (1 : Int32)).toNatClampNeg) hc204) (cwV 1 hU (fw_gV m_1428 m_1429 m_1430 m_9 m_1431) rfl rfl rfl (by decide +kernel) ⟨(Nat.le_of_ble_eq_true rfl), (Nat.le_of_ble_eq_true rfl)⟩) ⟨fw_blind, fw_recv hK hP (fw_V0 (f := 18) (by decide) (by decide)) rfl rfl, fun U hU9 hW9 => ⟨rfl, fw_pre hK hP hSt hS U hU9 hW9⟩⟩ rfl rfl hl.1 rfl (lv_room (Nat.le_of_ble_eq_true rfl)) dL_law_1709 ⟨by show _ ≤ 603072; omega, by show _ ≤ 7182442; omega⟩) hS (fun H locs hP hS => ?_)
  refine lv_istore (lv' := [(7, .int r204), (6, .int r203), (0, .ref b), (1, .ref (fw_ad E 0 10)), (2, .ref (fw_ad E 0 18)), (3, .ref (fw_ad E 0 27)), (4, .ref (fw_ad E 0 28)), (5, .int x5)]) hx hb dL_law_1712 hl (by decide) rfl (fun ls hl => ?_)
  refine lv_aload_n hx hb dL_law_1714 rfl (lv_at hl 4 rfl) ?_
  obtain ⟨r205, hc205, h⟩ := fw_b1_e h
  refine fw_ret (va_runV (As := []) (rest := []) ⟨hx, hb, hml, hown, hU⟩ (k_X10_thrown l hE hc205) (cwV 0 hU (fw_gV m_1178 m_1179 m_1180 m_9 m_1181) rfl rfl rfl (by decide +kernel) ⟨(Nat.le_of_ble_eq_true rfl), (Nat.le_of_ble_eq_true rfl)⟩) ⟨fw_blind, fw_recv hK hP (fw_V0 (f := 18) (by decide) (by decide)) rfl rfl, fun U hU9 hW9 => ⟨rfl, fw_pre hK hP hSt hS U hU9 hW9⟩⟩ rfl rfl hl.1 rfl (lv_room (Nat.le_of_ble_eq_true rfl)) dL_law_1715 ⟨by show _ ≤ 603072; omega, by show _ ≤ 7182442; omega⟩) hS (fun H locs hP hS => ?_)
  refine lv_iload hx hb dL_law_1718 (lv_at hl 1 rfl) ?_
  refine lv_icmp_eq (tgt := 1725) hx hb dL_law_1720 (by decide) (fun c206 => ?_) (fun c206 => ?_)
  · rw [if_pos c206] at h
    refine lv_iload hx hb dL_law_1725 (lv_at hl 1 rfl) ?_
    refine lv_if_ne (tgt := 1742) hx hb dL_law_1727 (by decide) (fun c207 => ?_) (fun c207 => ?_)
    · rw [if_neg c207] at h
      refine lv_goto (tgt := 2765) hx hb dL_law_1742 (by decide) ?_
      refine lv_iinc (v := (x5 + (5 : Int32))) (lv' := [(5, .int (x5 + (5 : Int32))), (7, .int r204), (6, .int r203), (0, .ref b), (1, .ref (fw_ad E 0 10)), (2, .ref (fw_ad E 0 18)), (3, .ref (fw_ad E 0 27)), (4, .ref (fw_ad E 0 28))]) hx hb dL_law_2765 hl (k := 7) rfl rfl (by decide) rfl (fun ls hl => ?_)
      refine lv_goto (tgt := 28) hx hb dL_law_2768 (by decide) ?_
      exact ih _ _ _ _ H locs ls _ _ h hP hS (lv_sub hl [3, 4, 5, 6, 7, 0] rfl) (by omega) (by omega)
    · rw [if_pos c207] at h
      refine lv_aload_n hx hb dL_law_1730 rfl (lv_at hl 5 rfl) ?_
      refine lv_iconst (v := (0 : Int32)) hx hb dL_law_1731 (by decide) ?_
      refine va_lald (D := fw_D E) hx hb hK (fw_at hP (fw_V0 (f := 27) (by decide) (by decide))) 0 6 rfl rfl (fw_in_e (n := 1) (by decide)) dL_law_1732 ?_
      refine lv_iload hx hb dL_law_1733 (lv_at hl 0 rfl) ?_
      refine lv_i2l (v := r204.toInt64) hx hb dL_law_1735 rfl ?_
      refine W.lcmp hx hb dL_law_1736 ?_
      refine lv_if_eq (tgt := 1742) hx hb dL_law_1737 (by decide) (fun c208 => ?_) (fun c208 => ?_)
      · rw [if_pos c208] at h
        refine lv_goto (tgt := 2765) hx hb dL_law_1742 (by decide) ?_
        refine lv_iinc (v := (x5 + (5 : Int32))) (lv' := [(5, .int (x5 + (5 : Int32))), (7, .int r204), (6, .int r203), (0, .ref b), (1, .ref (fw_ad E 0 10)), (2, .ref (fw_ad E 0 18)), (3, .ref (fw_ad E 0 27)), (4, .ref (fw_ad E 0 28))]) hx hb dL_law_2765 hl (k := 7) rfl rfl (by decide) rfl (fun ls hl => ?_)
        refine lv_goto (tgt := 28) hx hb dL_law_2768 (by decide) ?_
        exact ih _ _ _ _ H locs ls _ _ h hP hS (lv_sub hl [3, 4, 5, 6, 7, 0] rfl) (by omega) (by omega)
      · rw [if_neg c208] at h
        refine lv_iconst (v := (0 : Int32)) hx hb dL_law_1740 (by decide) ?_
        cases h
  · rw [if_neg c206] at h
    refine lv_iconst (v := (0 : Int32)) hx hb dL_law_1723 (by decide) ?_
    cases h
set_option maxHeartbeats 4000000 in
set_option maxRecDepth 100000 in
theorem law_C1745 {p : Program} {l : Launch} {e : Env} {s : State} {m : MethodId} {below : List Frame} {meth : Method} {c : Code} {b L : Nat} {xs : Nat → Int32} {E : fw_E} {Q : State → Prop} (C0 : lc_At p l s m meth c b L xs E) (n : Nat) (K : fw_M → Int64 → UInt64 → Int32 → Option Unit) (ih : ∀ (μ : fw_M) (o : Int64) (d : UInt64) (x5 : Int32) (H : Heap) (locs : List Loc) (ls : Array Slot) (cells slots : Nat), K μ o d x5 = some () → fw_P E o d μ H → va_S (fw_A E) s.heap H locs → lv_has ls 9 [(0, .ref b), (1, .ref (fw_ad E 0 10)), (2, .ref (fw_ad E 0 18)), (3, .ref (fw_ad E 0 27)), (4, .ref (fw_ad E 0 28)), (5, .int x5)] → cells + 4 * n ≤ 603072 → slots + 24 * n ≤ 7182442 → W p l e room_1 s m #[Value.ref b] below meth c H locs cells slots Q (F0 m 28 ls [])) : ∀ (μ : fw_M) (o : Int64) (d : UInt64) (x5 : Int32) (H : Heap) (locs : List Loc) (ls : Array Slot) (cells slots : Nat), f_law_C1745 K xs L μ o d x5 = some () → fw_P E o d μ H → va_S (fw_A E) s.heap H locs → lv_has ls 9 [(0, .ref b), (1, .ref (fw_ad E 0 10)), (2, .ref (fw_ad E 0 18)), (3, .ref (fw_ad E 0 27)), (4, .ref (fw_ad E 0 28)), (5, .int x5)] → cells + 4 * (n + 1) ≤ 603072 → slots + 24 * (n + 1) ≤ 7182442 → W p l e room_1 s m #[Value.ref b] below meth c H locs cells slots Q (F0 m 1745 ls []) := by
  obtain ⟨hx, hb, hml, hown, hU, hK, hSt, hN2, hE, hst, hX, hbl, hbA, hz⟩ := C0
  intro μ o d x5 H locs ls cells slots h hP hS hl hc1 hc2
  unfold f_law_C1745 at h
  refine lv_aload_n hx hb dL_law_1745 rfl (lv_at hl 1 rfl) ?_
  refine lv_aload_n hx hb dL_law_1746 rfl (lv_at hl 0 rfl) ?_
  refine lv_iload hx hb dL_law_1747 (lv_at hl 5 rfl) ?_
  refine lv_iconst (v := (1 : Int32)) hx hb dL_law_1749 (by decide) ?_
  refine lv_iadd hx hb dL_law_1750 ?_
  obtain ⟨g209, h⟩ := fw_g_e h
  refine va_sld hx hb hX hbl hbA hS (fw_in_e g209) dL_law_1751 ?_
  refine lv_aload_n hx hb dL_law_1752 rfl (lv_at hl 3 rfl) ?_
  obtain ⟨μ210, o210, d210, r210, hc210, h⟩ := fw_b4_e h
  refine fw_retL (vx_runSW (As := [.ref (fw_ad E 0 10), .int (xs (x5 + (1 : Int32)).toNatClampNeg), .ref (fw_ad E 0 27)]) (rest := []) ⟨hx, hb, hml, hown, hU⟩ (k_L_bestTemperature l hst hE (xs (x5 + (1 : Int32)).toNatClampNeg) hc210) (vx_cwSW 3 hU (fw_gSW m_808 m_809 m_0 m_810) rfl rfl rfl (by decide +kernel) ⟨(Nat.le_of_ble_eq_true rfl), (Nat.le_of_ble_eq_true rfl)⟩) ⟨fw_blind2, fun U hU9 hW9 => ⟨rfl, fw_pre hK hP hSt hS U hU9 hW9, fw_S2_go hN2 hW9⟩⟩ rfl rfl hl.1 rfl (lv_room (Nat.le_of_ble_eq_true rfl)) dL_law_1753 ⟨by show _ ≤ 603072; omega, by show _ ≤ 7182442; omega⟩) hS (fun H locs hP hS => ?_)
  refine lv_istore (lv' := [(6, .int r210), (0, .ref b), (1, .ref (fw_ad E 0 10)), (2, .ref (fw_ad E 0 18)), (3, .ref (fw_ad E 0 27)), (4, .ref (fw_ad E 0 28)), (5, .int x5)]) hx hb dL_law_1756 hl (by decide) rfl (fun ls hl => ?_)
  refine lv_aload_n hx hb dL_law_1758 rfl (lv_at hl 3 rfl) ?_
  refine lv_aload_n hx hb dL_law_1759 rfl (lv_at hl 1 rfl) ?_
  refine lv_iload hx hb dL_law_1760 (lv_at hl 6 rfl) ?_
  refine lv_iconst (v := (1 : Int32)) hx hb dL_law_1762 (by decide) ?_
  refine lv_iadd hx hb dL_law_1763 ?_
  refine va_sld hx hb hX hbl hbA hS (fw_in_e g209) dL_law_1764 ?_
  obtain ⟨μ211, r211, hc211, h⟩ := fw_b2_e h
  refine fw_ret (va_runV (As := [.int (xs (x5 + (1 : Int32)).toNatClampNeg)]) (rest := []) ⟨hx, hb, hml, hown, hU⟩ (k_X10_bestTemperature l hE (xs (x5 + (1 : Int32)).toNatClampNeg) hc211) (cwV 1 hU (fw_gV m_1433 m_1434 m_1435 m_9 m_1436) rfl rfl rfl (by decide +kernel) ⟨(Nat.le_of_ble_eq_true rfl), (Nat.le_of_ble_eq_true rfl)⟩) ⟨fw_blind, fw_recv hK hP (fw_V0 (f := 18) (by decide) (by decide)) rfl rfl, fun U hU9 hW9 => ⟨rfl, fw_pre hK hP hSt hS U hU9 hW9⟩⟩ rfl rfl hl.1 rfl (lv_room (Nat.le_of_ble_eq_true rfl)) dL_law_1765 ⟨by show _ ≤ 603072; omega, by show _ ≤ 7182442; omega⟩) hS (fun H locs hP hS => ?_)
  refine lv_istore (lv' := [(7, .int r211), (6, .int r210), (0, .ref b), (1, .ref (fw_ad E 0 10)), (2, .ref (fw_ad E 0 18)), (3, .ref (fw_ad E 0 27)), (4, .ref (fw_ad E 0 28)), (5, .int x5)]) hx hb dL_law_1768 hl (by decide) rfl (fun ls hl => ?_)
  refine lv_aload_n hx hb dL_law_1770 rfl (lv_at hl 4 rfl) ?_
  obtain ⟨r212, hc212, h⟩ := fw_b1_e h
  refine fw_ret (va_runV (As := []) (rest := []) ⟨hx, hb, hml, hown, hU⟩ (k_X10_thrown l hE hc212) (cwV 0 hU (fw_gV m_1178 m_1179 m_1180 m_9 m_1181) rfl rfl rfl (by decide +kernel) ⟨(Nat.le_of_ble_eq_true rfl), (Nat.le_of_ble_eq_true rfl)⟩) ⟨fw_blind, fw_recv hK hP (fw_V0 (f := 18) (by decide) (by decide)) rfl rfl, fun U hU9 hW9 => ⟨rfl, fw_pre hK hP hSt hS U hU9 hW9⟩⟩ rfl rfl hl.1 rfl (lv_room (Nat.le_of_ble_eq_true rfl)) dL_law_1771 ⟨by show _ ≤ 603072; omega, by show _ ≤ 7182442; omega⟩) hS (fun H locs hP hS => ?_)
  refine lv_iload hx hb dL_law_1774 (lv_at hl 1 rfl) ?_
  refine lv_icmp_eq (tgt := 1781) hx hb dL_law_1776 (by decide) (fun c213 => ?_) (fun c213 => ?_)
  · rw [if_pos c213] at h
    refine lv_iload hx hb dL_law_1781 (lv_at hl 1 rfl) ?_
    refine lv_if_ne (tgt := 1798) hx hb dL_law_1783 (by decide) (fun c214 => ?_) (fun c214 => ?_)
    · rw [if_neg c214] at h
      refine lv_goto (tgt := 2765) hx hb dL_law_1798 (by decide) ?_
      refine lv_iinc (v := (x5 + (5 : Int32))) (lv' := [(5, .int (x5 + (5 : Int32))), (7, .int r211), (6, .int r210), (0, .ref b), (1, .ref (fw_ad E 0 10)), (2, .ref (fw_ad E 0 18)), (3, .ref (fw_ad E 0 27)), (4, .ref (fw_ad E 0 28))]) hx hb dL_law_2765 hl (k := 7) rfl rfl (by decide) rfl (fun ls hl => ?_)
      refine lv_goto (tgt := 28) hx hb dL_law_2768 (by decide) ?_
      exact ih _ _ _ _ H locs ls _ _ h hP hS (lv_sub hl [3, 4, 5, 6, 7, 0] rfl) (by omega) (by omega)
    · rw [if_pos c214] at h
      refine lv_aload_n hx hb dL_law_1786 rfl (lv_at hl 5 rfl) ?_
      refine lv_iconst (v := (0 : Int32)) hx hb dL_law_1787 (by decide) ?_
      refine va_lald (D := fw_D E) hx hb hK (fw_at hP (fw_V0 (f := 27) (by decide) (by decide))) 0 6 rfl rfl (fw_in_e (n := 1) (by decide)) dL_law_1788 ?_
      refine lv_iload hx hb dL_law_1789 (lv_at hl 0 rfl) ?_
      refine lv_i2l (v := r211.toInt64) hx hb dL_law_1791 rfl ?_
      refine W.lcmp hx hb dL_law_1792 ?_
      refine lv_if_eq (tgt := 1798) hx hb dL_law_1793 (by decide) (fun c215 => ?_) (fun c215 => ?_)
      · rw [if_pos c215] at h
        refine lv_goto (tgt := 2765) hx hb dL_law_1798 (by decide) ?_
        refine lv_iinc (v := (x5 + (5 : Int32))) (lv' := [(5, .int (x5 + (5 : Int32))), (7, .int r211), (6, .int r210), (0, .ref b), (1, .ref (fw_ad E 0 10)), (2, .ref (fw_ad E 0 18)), (3, .ref (fw_ad E 0 27)), (4, .ref (fw_ad E 0 28))]) hx hb dL_law_2765 hl (k := 7) rfl rfl (by decide) rfl (fun ls hl => ?_)
        refine lv_goto (tgt := 28) hx hb dL_law_2768 (by decide) ?_
        exact ih _ _ _ _ H locs ls _ _ h hP hS (lv_sub hl [3, 4, 5, 6, 7, 0] rfl) (by omega) (by omega)
      · rw [if_neg c215] at h
        refine lv_iconst (v := (0 : Int32)) hx hb dL_law_1796 (by decide) ?_
        cases h
  · rw [if_neg c213] at h
    refine lv_iconst (v := (0 : Int32)) hx hb dL_law_1779 (by decide) ?_
    cases h
set_option maxHeartbeats 4000000 in
set_option maxRecDepth 100000 in
theorem law_C1801 {p : Program} {l : Launch} {e : Env} {s : State} {m : MethodId} {below : List Frame} {meth : Method} {c : Code} {b L : Nat} {xs : Nat → Int32} {E : fw_E} {Q : State → Prop} (C0 : lc_At p l s m meth c b L xs E) (n : Nat) (K : fw_M → Int64 → UInt64 → Int32 → Option Unit) (ih : ∀ (μ : fw_M) (o : Int64) (d : UInt64) (x5 : Int32) (H : Heap) (locs : List Loc) (ls : Array Slot) (cells slots : Nat), K μ o d x5 = some () → fw_P E o d μ H → va_S (fw_A E) s.heap H locs → lv_has ls 9 [(0, .ref b), (1, .ref (fw_ad E 0 10)), (2, .ref (fw_ad E 0 18)), (3, .ref (fw_ad E 0 27)), (4, .ref (fw_ad E 0 28)), (5, .int x5)] → cells + 4 * n ≤ 603072 → slots + 24 * n ≤ 7182442 → W p l e room_1 s m #[Value.ref b] below meth c H locs cells slots Q (F0 m 28 ls [])) : ∀ (μ : fw_M) (o : Int64) (d : UInt64) (x5 : Int32) (H : Heap) (locs : List Loc) (ls : Array Slot) (cells slots : Nat), f_law_C1801 K xs L μ o d x5 = some () → fw_P E o d μ H → va_S (fw_A E) s.heap H locs → lv_has ls 9 [(0, .ref b), (1, .ref (fw_ad E 0 10)), (2, .ref (fw_ad E 0 18)), (3, .ref (fw_ad E 0 27)), (4, .ref (fw_ad E 0 28)), (5, .int x5)] → cells + 4 * (n + 1) ≤ 603072 → slots + 24 * (n + 1) ≤ 7182442 → W p l e room_1 s m #[Value.ref b] below meth c H locs cells slots Q (F0 m 1801 ls []) := by
  obtain ⟨hx, hb, hml, hown, hU, hK, hSt, hN2, hE, hst, hX, hbl, hbA, hz⟩ := C0
  intro μ o d x5 H locs ls cells slots h hP hS hl hc1 hc2
  unfold f_law_C1801 at h
  refine lv_aload_n hx hb dL_law_1801 rfl (lv_at hl 1 rfl) ?_
  refine lv_aload_n hx hb dL_law_1802 rfl (lv_at hl 0 rfl) ?_
  refine lv_iload hx hb dL_law_1803 (lv_at hl 5 rfl) ?_
  refine lv_iconst (v := (1 : Int32)) hx hb dL_law_1805 (by decide) ?_
  refine lv_iadd hx hb dL_law_1806 ?_
  obtain ⟨g216, h⟩ := fw_g_e h
  refine va_sld hx hb hX hbl hbA hS (fw_in_e g216) dL_law_1807 ?_
  refine lv_aload_n hx hb dL_law_1808 rfl (lv_at hl 0 rfl) ?_
  refine lv_iload hx hb dL_law_1809 (lv_at hl 5 rfl) ?_
  refine lv_iconst (v := (2 : Int32)) hx hb dL_law_1811 (by decide) ?_
  refine lv_iadd hx hb dL_law_1812 ?_
  obtain ⟨g217, h⟩ := fw_g_e h
  refine va_sld hx hb hX hbl hbA hS (fw_in_e g217) dL_law_1813 ?_
  refine lv_aload hx hb dL_law_1814 (lv_at hl 4 rfl) ?_
  obtain ⟨μ218, o218, d218, r218, hc218, h⟩ := fw_b4_e h
  refine fw_retL (vx_runSW (As := [.ref (fw_ad E 0 10), .int (xs (x5 + (1 : Int32)).toNatClampNeg), .int (xs (x5 + (2 : Int32)).toNatClampNeg), .ref (fw_ad E 0 28)]) (rest := []) ⟨hx, hb, hml, hown, hU⟩ (k_L_price l hst hE (xs (x5 + (1 : Int32)).toNatClampNeg) (xs (x5 + (2 : Int32)).toNatClampNeg) hc218) (vx_cwSW 4 hU (fw_gSW m_820 m_821 m_0 m_822) rfl rfl rfl (by decide +kernel) ⟨(Nat.le_of_ble_eq_true rfl), (Nat.le_of_ble_eq_true rfl)⟩) ⟨fw_blind2, fun U hU9 hW9 => ⟨rfl, fw_pre hK hP hSt hS U hU9 hW9, fw_S2_go hN2 hW9⟩⟩ rfl rfl hl.1 rfl (lv_room (Nat.le_of_ble_eq_true rfl)) dL_law_1816 ⟨by show _ ≤ 603072; omega, by show _ ≤ 7182442; omega⟩) hS (fun H locs hP hS => ?_)
  refine lv_istore (lv' := [(6, .int r218), (0, .ref b), (1, .ref (fw_ad E 0 10)), (2, .ref (fw_ad E 0 18)), (3, .ref (fw_ad E 0 27)), (4, .ref (fw_ad E 0 28)), (5, .int x5)]) hx hb dL_law_1819 hl (by decide) rfl (fun ls hl => ?_)
  refine lv_aload_n hx hb dL_law_1821 rfl (lv_at hl 3 rfl) ?_
  refine lv_aload_n hx hb dL_law_1822 rfl (lv_at hl 1 rfl) ?_
  refine lv_iload hx hb dL_law_1823 (lv_at hl 6 rfl) ?_
  refine lv_iconst (v := (1 : Int32)) hx hb dL_law_1825 (by decide) ?_
  refine lv_iadd hx hb dL_law_1826 ?_
  refine va_sld hx hb hX hbl hbA hS (fw_in_e g216) dL_law_1827 ?_
  refine lv_aload_n hx hb dL_law_1828 rfl (lv_at hl 1 rfl) ?_
  refine lv_iload hx hb dL_law_1829 (lv_at hl 6 rfl) ?_
  refine lv_iconst (v := (2 : Int32)) hx hb dL_law_1831 (by decide) ?_
  refine lv_iadd hx hb dL_law_1832 ?_
  refine va_sld hx hb hX hbl hbA hS (fw_in_e g217) dL_law_1833 ?_
  obtain ⟨μ219, r219, hc219, h⟩ := fw_b2_e h
  refine fw_ret (va_runV (As := [.int (xs (x5 + (1 : Int32)).toNatClampNeg), .int (xs (x5 + (2 : Int32)).toNatClampNeg)]) (rest := []) ⟨hx, hb, hml, hown, hU⟩ (k_X10_price l hE (xs (x5 + (1 : Int32)).toNatClampNeg) (xs (x5 + (2 : Int32)).toNatClampNeg) hc219) (cwV 2 hU (fw_gV m_1437 m_1438 m_1439 m_9 m_1440) rfl rfl rfl (by decide +kernel) ⟨(Nat.le_of_ble_eq_true rfl), (Nat.le_of_ble_eq_true rfl)⟩) ⟨fw_blind, fw_recv hK hP (fw_V0 (f := 18) (by decide) (by decide)) rfl rfl, fun U hU9 hW9 => ⟨rfl, fw_pre hK hP hSt hS U hU9 hW9⟩⟩ rfl rfl hl.1 rfl (lv_room (Nat.le_of_ble_eq_true rfl)) dL_law_1834 ⟨by show _ ≤ 603072; omega, by show _ ≤ 7182442; omega⟩) hS (fun H locs hP hS => ?_)
  refine lv_fstore (lv' := [(7, .float r219), (6, .int r218), (0, .ref b), (1, .ref (fw_ad E 0 10)), (2, .ref (fw_ad E 0 18)), (3, .ref (fw_ad E 0 27)), (4, .ref (fw_ad E 0 28)), (5, .int x5)]) hx hb dL_law_1837 hl (by decide) rfl (fun ls hl => ?_)
  refine lv_aload_n hx hb dL_law_1839 rfl (lv_at hl 4 rfl) ?_
  obtain ⟨r220, hc220, h⟩ := fw_b1_e h
  refine fw_ret (va_runV (As := []) (rest := []) ⟨hx, hb, hml, hown, hU⟩ (k_X10_thrown l hE hc220) (cwV 0 hU (fw_gV m_1178 m_1179 m_1180 m_9 m_1181) rfl rfl rfl (by decide +kernel) ⟨(Nat.le_of_ble_eq_true rfl), (Nat.le_of_ble_eq_true rfl)⟩) ⟨fw_blind, fw_recv hK hP (fw_V0 (f := 18) (by decide) (by decide)) rfl rfl, fun U hU9 hW9 => ⟨rfl, fw_pre hK hP hSt hS U hU9 hW9⟩⟩ rfl rfl hl.1 rfl (lv_room (Nat.le_of_ble_eq_true rfl)) dL_law_1840 ⟨by show _ ≤ 603072; omega, by show _ ≤ 7182442; omega⟩) hS (fun H locs hP hS => ?_)
  refine lv_iload hx hb dL_law_1843 (lv_at hl 1 rfl) ?_
  refine lv_icmp_eq (tgt := 1850) hx hb dL_law_1845 (by decide) (fun c221 => ?_) (fun c221 => ?_)
  · rw [if_pos c221] at h
    refine lv_iload hx hb dL_law_1850 (lv_at hl 1 rfl) ?_
    refine lv_if_ne (tgt := 1888) hx hb dL_law_1852 (by decide) (fun c222 => ?_) (fun c222 => ?_)
    · rw [if_neg c222] at h
      refine lv_goto (tgt := 2765) hx hb dL_law_1888 (by decide) ?_
      refine lv_iinc (v := (x5 + (5 : Int32))) (lv' := [(5, .int (x5 + (5 : Int32))), (7, .float r219), (6, .int r218), (0, .ref b), (1, .ref (fw_ad E 0 10)), (2, .ref (fw_ad E 0 18)), (3, .ref (fw_ad E 0 27)), (4, .ref (fw_ad E 0 28))]) hx hb dL_law_2765 hl (k := 7) rfl rfl (by decide) rfl (fun ls hl => ?_)
      refine lv_goto (tgt := 28) hx hb dL_law_2768 (by decide) ?_
      exact ih _ _ _ _ H locs ls _ _ h hP hS (lv_sub hl [3, 4, 5, 6, 7, 0] rfl) (by omega) (by omega)
    · rw [if_pos c222] at h
      refine lv_aload hx hb dL_law_1855 (lv_at hl 6 rfl) ?_
      refine lv_iconst (v := (0 : Int32)) hx hb dL_law_1857 (by decide) ?_
      refine va_dald (D := fw_D E) hx hb hK (fw_at hP (fw_V0 (f := 28) (by decide) (by decide))) 0 7 rfl rfl (fw_in_e (n := 1) (by decide)) dL_law_1858 ?_
      refine lv_fload hx hb dL_law_1859 (lv_at hl 0 rfl) ?_
      obtain ⟨g223, h⟩ := fw_g_e h
      refine lv_f2d hx hb dL_law_1861 (fw_f64_e g223) ?_
      refine lv_dcmp (op := CmpOp.l) hx hb dL_law_1862 ?_
      refine lv_if_eq (tgt := 1888) hx hb dL_law_1863 (by decide) (fun c224 => ?_) (fun c224 => ?_)
      · rw [if_pos c224] at h
        refine lv_goto (tgt := 2765) hx hb dL_law_1888 (by decide) ?_
        refine lv_iinc (v := (x5 + (5 : Int32))) (lv' := [(5, .int (x5 + (5 : Int32))), (7, .float r219), (6, .int r218), (0, .ref b), (1, .ref (fw_ad E 0 10)), (2, .ref (fw_ad E 0 18)), (3, .ref (fw_ad E 0 27)), (4, .ref (fw_ad E 0 28))]) hx hb dL_law_2765 hl (k := 7) rfl rfl (by decide) rfl (fun ls hl => ?_)
        refine lv_goto (tgt := 28) hx hb dL_law_2768 (by decide) ?_
        exact ih _ _ _ _ H locs ls _ _ h hP hS (lv_sub hl [3, 4, 5, 6, 7, 0] rfl) (by omega) (by omega)
      · rw [if_neg c224] at h
        refine lv_aload hx hb dL_law_1866 (lv_at hl 6 rfl) ?_
        refine lv_iconst (v := (0 : Int32)) hx hb dL_law_1868 (by decide) ?_
        refine va_dald (D := fw_D E) hx hb hK (fw_at hP (fw_V0 (f := 28) (by decide) (by decide))) 0 7 rfl rfl (fw_in_e (n := 1) (by decide)) dL_law_1869 ?_
        refine lv_aload hx hb dL_law_1870 (lv_at hl 6 rfl) ?_
        refine lv_iconst (v := (0 : Int32)) hx hb dL_law_1872 (by decide) ?_
        refine va_dald (D := fw_D E) hx hb hK (fw_at hP (fw_V0 (f := 28) (by decide) (by decide))) 0 7 rfl rfl (fw_in_e (n := 1) (by decide)) dL_law_1873 ?_
        refine lv_dcmp (op := CmpOp.l) hx hb dL_law_1874 ?_
        refine lv_if_eq (tgt := 1886) hx hb dL_law_1875 (by decide) (fun c225 => ?_) (fun c225 => ?_)
        · rw [if_pos c225] at h
          refine lv_iconst (v := (0 : Int32)) hx hb dL_law_1886 (by decide) ?_
          cases h
        · rw [if_neg c225] at h
          refine lv_fload hx hb dL_law_1878 (lv_at hl 0 rfl) ?_
          refine lv_fload hx hb dL_law_1880 (lv_at hl 0 rfl) ?_
          refine lv_fcmp (op := CmpOp.l) hx hb dL_law_1882 ?_
          refine lv_if_ne (tgt := 1888) hx hb dL_law_1883 (by decide) (fun c226 => ?_) (fun c226 => ?_)
          · rw [if_neg c226] at h
            refine lv_goto (tgt := 2765) hx hb dL_law_1888 (by decide) ?_
            refine lv_iinc (v := (x5 + (5 : Int32))) (lv' := [(5, .int (x5 + (5 : Int32))), (7, .float r219), (6, .int r218), (0, .ref b), (1, .ref (fw_ad E 0 10)), (2, .ref (fw_ad E 0 18)), (3, .ref (fw_ad E 0 27)), (4, .ref (fw_ad E 0 28))]) hx hb dL_law_2765 hl (k := 7) rfl rfl (by decide) rfl (fun ls hl => ?_)
            refine lv_goto (tgt := 28) hx hb dL_law_2768 (by decide) ?_
            exact ih _ _ _ _ H locs ls _ _ h hP hS (lv_sub hl [3, 4, 5, 6, 7, 0] rfl) (by omega) (by omega)
          · rw [if_pos c226] at h
            refine lv_iconst (v := (0 : Int32)) hx hb dL_law_1886 (by decide) ?_
            cases h
  · rw [if_neg c221] at h
    refine lv_iconst (v := (0 : Int32)) hx hb dL_law_1848 (by decide) ?_
    cases h
set_option maxHeartbeats 4000000 in
set_option maxRecDepth 100000 in
theorem law_C1891 {p : Program} {l : Launch} {e : Env} {s : State} {m : MethodId} {below : List Frame} {meth : Method} {c : Code} {b L : Nat} {xs : Nat → Int32} {E : fw_E} {Q : State → Prop} (C0 : lc_At p l s m meth c b L xs E) (n : Nat) (K : fw_M → Int64 → UInt64 → Int32 → Option Unit) (ih : ∀ (μ : fw_M) (o : Int64) (d : UInt64) (x5 : Int32) (H : Heap) (locs : List Loc) (ls : Array Slot) (cells slots : Nat), K μ o d x5 = some () → fw_P E o d μ H → va_S (fw_A E) s.heap H locs → lv_has ls 9 [(0, .ref b), (1, .ref (fw_ad E 0 10)), (2, .ref (fw_ad E 0 18)), (3, .ref (fw_ad E 0 27)), (4, .ref (fw_ad E 0 28)), (5, .int x5)] → cells + 4 * n ≤ 603072 → slots + 24 * n ≤ 7182442 → W p l e room_1 s m #[Value.ref b] below meth c H locs cells slots Q (F0 m 28 ls [])) : ∀ (μ : fw_M) (o : Int64) (d : UInt64) (x5 : Int32) (H : Heap) (locs : List Loc) (ls : Array Slot) (cells slots : Nat), f_law_C1891 K xs L μ o d x5 = some () → fw_P E o d μ H → va_S (fw_A E) s.heap H locs → lv_has ls 9 [(0, .ref b), (1, .ref (fw_ad E 0 10)), (2, .ref (fw_ad E 0 18)), (3, .ref (fw_ad E 0 27)), (4, .ref (fw_ad E 0 28)), (5, .int x5)] → cells + 4 * (n + 1) ≤ 603072 → slots + 24 * (n + 1) ≤ 7182442 → W p l e room_1 s m #[Value.ref b] below meth c H locs cells slots Q (F0 m 1891 ls []) := by
  obtain ⟨hx, hb, hml, hown, hU, hK, hSt, hN2, hE, hst, hX, hbl, hbA, hz⟩ := C0
  intro μ o d x5 H locs ls cells slots h hP hS hl hc1 hc2
  unfold f_law_C1891 at h
  refine lv_aload_n hx hb dL_law_1891 rfl (lv_at hl 1 rfl) ?_
  refine lv_aload_n hx hb dL_law_1892 rfl (lv_at hl 0 rfl) ?_
  refine lv_iload hx hb dL_law_1893 (lv_at hl 5 rfl) ?_
  refine lv_iconst (v := (1 : Int32)) hx hb dL_law_1895 (by decide) ?_
  refine lv_iadd hx hb dL_law_1896 ?_
  obtain ⟨g227, h⟩ := fw_g_e h
  refine va_sld hx hb hX hbl hbA hS (fw_in_e g227) dL_law_1897 ?_
  refine lv_aload hx hb dL_law_1898 (lv_at hl 4 rfl) ?_
  obtain ⟨μ228, o228, d228, r228, hc228, h⟩ := fw_b4_e h
  refine fw_retL (vx_runSW (As := [.ref (fw_ad E 0 10), .int (xs (x5 + (1 : Int32)).toNatClampNeg), .ref (fw_ad E 0 28)]) (rest := []) ⟨hx, hb, hml, hown, hU⟩ (k_L_paid l hst hE (xs (x5 + (1 : Int32)).toNatClampNeg) hc228) (vx_cwSW 3 hU (fw_gSW m_828 m_829 m_0 m_830) rfl rfl rfl (by decide +kernel) ⟨(Nat.le_of_ble_eq_true rfl), (Nat.le_of_ble_eq_true rfl)⟩) ⟨fw_blind2, fun U hU9 hW9 => ⟨rfl, fw_pre hK hP hSt hS U hU9 hW9, fw_S2_go hN2 hW9⟩⟩ rfl rfl hl.1 rfl (lv_room (Nat.le_of_ble_eq_true rfl)) dL_law_1900 ⟨by show _ ≤ 603072; omega, by show _ ≤ 7182442; omega⟩) hS (fun H locs hP hS => ?_)
  refine lv_istore (lv' := [(6, .int r228), (0, .ref b), (1, .ref (fw_ad E 0 10)), (2, .ref (fw_ad E 0 18)), (3, .ref (fw_ad E 0 27)), (4, .ref (fw_ad E 0 28)), (5, .int x5)]) hx hb dL_law_1903 hl (by decide) rfl (fun ls hl => ?_)
  refine lv_aload_n hx hb dL_law_1905 rfl (lv_at hl 3 rfl) ?_
  refine lv_aload_n hx hb dL_law_1906 rfl (lv_at hl 1 rfl) ?_
  refine lv_iload hx hb dL_law_1907 (lv_at hl 6 rfl) ?_
  refine lv_iconst (v := (1 : Int32)) hx hb dL_law_1909 (by decide) ?_
  refine lv_iadd hx hb dL_law_1910 ?_
  refine va_sld hx hb hX hbl hbA hS (fw_in_e g227) dL_law_1911 ?_
  obtain ⟨μ229, r229, hc229, h⟩ := fw_b2_e h
  refine fw_ret (va_runV (As := [.int (xs (x5 + (1 : Int32)).toNatClampNeg)]) (rest := []) ⟨hx, hb, hml, hown, hU⟩ (k_X10_paid l hE (xs (x5 + (1 : Int32)).toNatClampNeg) hc229) (cwV 1 hU (fw_gV m_1441 m_1442 m_1443 m_9 m_1444) rfl rfl rfl (by decide +kernel) ⟨(Nat.le_of_ble_eq_true rfl), (Nat.le_of_ble_eq_true rfl)⟩) ⟨fw_blind, fw_recv hK hP (fw_V0 (f := 18) (by decide) (by decide)) rfl rfl, fun U hU9 hW9 => ⟨rfl, fw_pre hK hP hSt hS U hU9 hW9⟩⟩ rfl rfl hl.1 rfl (lv_room (Nat.le_of_ble_eq_true rfl)) dL_law_1912 ⟨by show _ ≤ 603072; omega, by show _ ≤ 7182442; omega⟩) hS (fun H locs hP hS => ?_)
  refine lv_fstore (lv' := [(7, .float r229), (6, .int r228), (0, .ref b), (1, .ref (fw_ad E 0 10)), (2, .ref (fw_ad E 0 18)), (3, .ref (fw_ad E 0 27)), (4, .ref (fw_ad E 0 28)), (5, .int x5)]) hx hb dL_law_1915 hl (by decide) rfl (fun ls hl => ?_)
  refine lv_aload_n hx hb dL_law_1917 rfl (lv_at hl 4 rfl) ?_
  obtain ⟨r230, hc230, h⟩ := fw_b1_e h
  refine fw_ret (va_runV (As := []) (rest := []) ⟨hx, hb, hml, hown, hU⟩ (k_X10_thrown l hE hc230) (cwV 0 hU (fw_gV m_1178 m_1179 m_1180 m_9 m_1181) rfl rfl rfl (by decide +kernel) ⟨(Nat.le_of_ble_eq_true rfl), (Nat.le_of_ble_eq_true rfl)⟩) ⟨fw_blind, fw_recv hK hP (fw_V0 (f := 18) (by decide) (by decide)) rfl rfl, fun U hU9 hW9 => ⟨rfl, fw_pre hK hP hSt hS U hU9 hW9⟩⟩ rfl rfl hl.1 rfl (lv_room (Nat.le_of_ble_eq_true rfl)) dL_law_1918 ⟨by show _ ≤ 603072; omega, by show _ ≤ 7182442; omega⟩) hS (fun H locs hP hS => ?_)
  refine lv_iload hx hb dL_law_1921 (lv_at hl 1 rfl) ?_
  refine lv_icmp_eq (tgt := 1928) hx hb dL_law_1923 (by decide) (fun c231 => ?_) (fun c231 => ?_)
  · rw [if_pos c231] at h
    refine lv_iload hx hb dL_law_1928 (lv_at hl 1 rfl) ?_
    refine lv_if_ne (tgt := 1966) hx hb dL_law_1930 (by decide) (fun c232 => ?_) (fun c232 => ?_)
    · rw [if_neg c232] at h
      refine lv_goto (tgt := 2765) hx hb dL_law_1966 (by decide) ?_
      refine lv_iinc (v := (x5 + (5 : Int32))) (lv' := [(5, .int (x5 + (5 : Int32))), (7, .float r229), (6, .int r228), (0, .ref b), (1, .ref (fw_ad E 0 10)), (2, .ref (fw_ad E 0 18)), (3, .ref (fw_ad E 0 27)), (4, .ref (fw_ad E 0 28))]) hx hb dL_law_2765 hl (k := 7) rfl rfl (by decide) rfl (fun ls hl => ?_)
      refine lv_goto (tgt := 28) hx hb dL_law_2768 (by decide) ?_
      exact ih _ _ _ _ H locs ls _ _ h hP hS (lv_sub hl [3, 4, 5, 6, 7, 0] rfl) (by omega) (by omega)
    · rw [if_pos c232] at h
      refine lv_aload hx hb dL_law_1933 (lv_at hl 6 rfl) ?_
      refine lv_iconst (v := (0 : Int32)) hx hb dL_law_1935 (by decide) ?_
      refine va_dald (D := fw_D E) hx hb hK (fw_at hP (fw_V0 (f := 28) (by decide) (by decide))) 0 7 rfl rfl (fw_in_e (n := 1) (by decide)) dL_law_1936 ?_
      refine lv_fload hx hb dL_law_1937 (lv_at hl 0 rfl) ?_
      obtain ⟨g233, h⟩ := fw_g_e h
      refine lv_f2d hx hb dL_law_1939 (fw_f64_e g233) ?_
      refine lv_dcmp (op := CmpOp.l) hx hb dL_law_1940 ?_
      refine lv_if_eq (tgt := 1966) hx hb dL_law_1941 (by decide) (fun c234 => ?_) (fun c234 => ?_)
      · rw [if_pos c234] at h
        refine lv_goto (tgt := 2765) hx hb dL_law_1966 (by decide) ?_
        refine lv_iinc (v := (x5 + (5 : Int32))) (lv' := [(5, .int (x5 + (5 : Int32))), (7, .float r229), (6, .int r228), (0, .ref b), (1, .ref (fw_ad E 0 10)), (2, .ref (fw_ad E 0 18)), (3, .ref (fw_ad E 0 27)), (4, .ref (fw_ad E 0 28))]) hx hb dL_law_2765 hl (k := 7) rfl rfl (by decide) rfl (fun ls hl => ?_)
        refine lv_goto (tgt := 28) hx hb dL_law_2768 (by decide) ?_
        exact ih _ _ _ _ H locs ls _ _ h hP hS (lv_sub hl [3, 4, 5, 6, 7, 0] rfl) (by omega) (by omega)
      · rw [if_neg c234] at h
        refine lv_aload hx hb dL_law_1944 (lv_at hl 6 rfl) ?_
        refine lv_iconst (v := (0 : Int32)) hx hb dL_law_1946 (by decide) ?_
        refine va_dald (D := fw_D E) hx hb hK (fw_at hP (fw_V0 (f := 28) (by decide) (by decide))) 0 7 rfl rfl (fw_in_e (n := 1) (by decide)) dL_law_1947 ?_
        refine lv_aload hx hb dL_law_1948 (lv_at hl 6 rfl) ?_
        refine lv_iconst (v := (0 : Int32)) hx hb dL_law_1950 (by decide) ?_
        refine va_dald (D := fw_D E) hx hb hK (fw_at hP (fw_V0 (f := 28) (by decide) (by decide))) 0 7 rfl rfl (fw_in_e (n := 1) (by decide)) dL_law_1951 ?_
        refine lv_dcmp (op := CmpOp.l) hx hb dL_law_1952 ?_
        refine lv_if_eq (tgt := 1964) hx hb dL_law_1953 (by decide) (fun c235 => ?_) (fun c235 => ?_)
        · rw [if_pos c235] at h
          refine lv_iconst (v := (0 : Int32)) hx hb dL_law_1964 (by decide) ?_
          cases h
        · rw [if_neg c235] at h
          refine lv_fload hx hb dL_law_1956 (lv_at hl 0 rfl) ?_
          refine lv_fload hx hb dL_law_1958 (lv_at hl 0 rfl) ?_
          refine lv_fcmp (op := CmpOp.l) hx hb dL_law_1960 ?_
          refine lv_if_ne (tgt := 1966) hx hb dL_law_1961 (by decide) (fun c236 => ?_) (fun c236 => ?_)
          · rw [if_neg c236] at h
            refine lv_goto (tgt := 2765) hx hb dL_law_1966 (by decide) ?_
            refine lv_iinc (v := (x5 + (5 : Int32))) (lv' := [(5, .int (x5 + (5 : Int32))), (7, .float r229), (6, .int r228), (0, .ref b), (1, .ref (fw_ad E 0 10)), (2, .ref (fw_ad E 0 18)), (3, .ref (fw_ad E 0 27)), (4, .ref (fw_ad E 0 28))]) hx hb dL_law_2765 hl (k := 7) rfl rfl (by decide) rfl (fun ls hl => ?_)
            refine lv_goto (tgt := 28) hx hb dL_law_2768 (by decide) ?_
            exact ih _ _ _ _ H locs ls _ _ h hP hS (lv_sub hl [3, 4, 5, 6, 7, 0] rfl) (by omega) (by omega)
          · rw [if_pos c236] at h
            refine lv_iconst (v := (0 : Int32)) hx hb dL_law_1964 (by decide) ?_
            cases h
  · rw [if_neg c231] at h
    refine lv_iconst (v := (0 : Int32)) hx hb dL_law_1926 (by decide) ?_
    cases h
set_option maxHeartbeats 4000000 in
set_option maxRecDepth 100000 in
theorem law_C1969 {p : Program} {l : Launch} {e : Env} {s : State} {m : MethodId} {below : List Frame} {meth : Method} {c : Code} {b L : Nat} {xs : Nat → Int32} {E : fw_E} {Q : State → Prop} (C0 : lc_At p l s m meth c b L xs E) (n : Nat) (K : fw_M → Int64 → UInt64 → Int32 → Option Unit) (ih : ∀ (μ : fw_M) (o : Int64) (d : UInt64) (x5 : Int32) (H : Heap) (locs : List Loc) (ls : Array Slot) (cells slots : Nat), K μ o d x5 = some () → fw_P E o d μ H → va_S (fw_A E) s.heap H locs → lv_has ls 9 [(0, .ref b), (1, .ref (fw_ad E 0 10)), (2, .ref (fw_ad E 0 18)), (3, .ref (fw_ad E 0 27)), (4, .ref (fw_ad E 0 28)), (5, .int x5)] → cells + 4 * n ≤ 603072 → slots + 24 * n ≤ 7182442 → W p l e room_1 s m #[Value.ref b] below meth c H locs cells slots Q (F0 m 28 ls [])) : ∀ (μ : fw_M) (o : Int64) (d : UInt64) (x5 : Int32) (H : Heap) (locs : List Loc) (ls : Array Slot) (cells slots : Nat), f_law_C1969 K xs L μ o d x5 = some () → fw_P E o d μ H → va_S (fw_A E) s.heap H locs → lv_has ls 9 [(0, .ref b), (1, .ref (fw_ad E 0 10)), (2, .ref (fw_ad E 0 18)), (3, .ref (fw_ad E 0 27)), (4, .ref (fw_ad E 0 28)), (5, .int x5)] → cells + 4 * (n + 1) ≤ 603072 → slots + 24 * (n + 1) ≤ 7182442 → W p l e room_1 s m #[Value.ref b] below meth c H locs cells slots Q (F0 m 1969 ls []) := by
  obtain ⟨hx, hb, hml, hown, hU, hK, hSt, hN2, hE, hst, hX, hbl, hbA, hz⟩ := C0
  intro μ o d x5 H locs ls cells slots h hP hS hl hc1 hc2
  unfold f_law_C1969 at h
  refine lv_aload_n hx hb dL_law_1969 rfl (lv_at hl 1 rfl) ?_
  refine lv_aload_n hx hb dL_law_1970 rfl (lv_at hl 0 rfl) ?_
  refine lv_iload hx hb dL_law_1971 (lv_at hl 5 rfl) ?_
  refine lv_iconst (v := (1 : Int32)) hx hb dL_law_1973 (by decide) ?_
  refine lv_iadd hx hb dL_law_1974 ?_
  obtain ⟨g237, h⟩ := fw_g_e h
  refine va_sld hx hb hX hbl hbA hS (fw_in_e g237) dL_law_1975 ?_
  refine lv_aload_n hx hb dL_law_1976 rfl (lv_at hl 3 rfl) ?_
  obtain ⟨μ238, o238, d238, r238, hc238, h⟩ := fw_b4_e h
  refine fw_retL (vx_runSW (As := [.ref (fw_ad E 0 10), .int (xs (x5 + (1 : Int32)).toNatClampNeg), .ref (fw_ad E 0 27)]) (rest := []) ⟨hx, hb, hml, hown, hU⟩ (k_L_paidBits l hst hE (xs (x5 + (1 : Int32)).toNatClampNeg) hc238) (vx_cwSW 3 hU (fw_gSW m_835 m_836 m_0 m_837) rfl rfl rfl (by decide +kernel) ⟨(Nat.le_of_ble_eq_true rfl), (Nat.le_of_ble_eq_true rfl)⟩) ⟨fw_blind2, fun U hU9 hW9 => ⟨rfl, fw_pre hK hP hSt hS U hU9 hW9, fw_S2_go hN2 hW9⟩⟩ rfl rfl hl.1 rfl (lv_room (Nat.le_of_ble_eq_true rfl)) dL_law_1977 ⟨by show _ ≤ 603072; omega, by show _ ≤ 7182442; omega⟩) hS (fun H locs hP hS => ?_)
  refine lv_istore (lv' := [(6, .int r238), (0, .ref b), (1, .ref (fw_ad E 0 10)), (2, .ref (fw_ad E 0 18)), (3, .ref (fw_ad E 0 27)), (4, .ref (fw_ad E 0 28)), (5, .int x5)]) hx hb dL_law_1980 hl (by decide) rfl (fun ls hl => ?_)
  refine lv_aload_n hx hb dL_law_1982 rfl (lv_at hl 3 rfl) ?_
  refine lv_aload_n hx hb dL_law_1983 rfl (lv_at hl 1 rfl) ?_
  refine lv_iload hx hb dL_law_1984 (lv_at hl 6 rfl) ?_
  refine lv_iconst (v := (1 : Int32)) hx hb dL_law_1986 (by decide) ?_
  refine lv_iadd hx hb dL_law_1987 ?_
  refine va_sld hx hb hX hbl hbA hS (fw_in_e g237) dL_law_1988 ?_
  obtain ⟨μ239, r239, hc239, h⟩ := fw_b2_e h
  refine fw_ret (va_runV (As := [.int (xs (x5 + (1 : Int32)).toNatClampNeg)]) (rest := []) ⟨hx, hb, hml, hown, hU⟩ (k_X10_paidBits l hE (xs (x5 + (1 : Int32)).toNatClampNeg) hc239) (cwV 1 hU (fw_gV m_1445 m_1446 m_1447 m_9 m_1448) rfl rfl rfl (by decide +kernel) ⟨(Nat.le_of_ble_eq_true rfl), (Nat.le_of_ble_eq_true rfl)⟩) ⟨fw_blind, fw_recv hK hP (fw_V0 (f := 18) (by decide) (by decide)) rfl rfl, fun U hU9 hW9 => ⟨rfl, fw_pre hK hP hSt hS U hU9 hW9⟩⟩ rfl rfl hl.1 rfl (lv_room (Nat.le_of_ble_eq_true rfl)) dL_law_1989 ⟨by show _ ≤ 603072; omega, by show _ ≤ 7182442; omega⟩) hS (fun H locs hP hS => ?_)
  refine lv_istore (lv' := [(7, .int r239), (6, .int r238), (0, .ref b), (1, .ref (fw_ad E 0 10)), (2, .ref (fw_ad E 0 18)), (3, .ref (fw_ad E 0 27)), (4, .ref (fw_ad E 0 28)), (5, .int x5)]) hx hb dL_law_1992 hl (by decide) rfl (fun ls hl => ?_)
  refine lv_aload_n hx hb dL_law_1994 rfl (lv_at hl 4 rfl) ?_
  obtain ⟨r240, hc240, h⟩ := fw_b1_e h
  refine fw_ret (va_runV (As := []) (rest := []) ⟨hx, hb, hml, hown, hU⟩ (k_X10_thrown l hE hc240) (cwV 0 hU (fw_gV m_1178 m_1179 m_1180 m_9 m_1181) rfl rfl rfl (by decide +kernel) ⟨(Nat.le_of_ble_eq_true rfl), (Nat.le_of_ble_eq_true rfl)⟩) ⟨fw_blind, fw_recv hK hP (fw_V0 (f := 18) (by decide) (by decide)) rfl rfl, fun U hU9 hW9 => ⟨rfl, fw_pre hK hP hSt hS U hU9 hW9⟩⟩ rfl rfl hl.1 rfl (lv_room (Nat.le_of_ble_eq_true rfl)) dL_law_1995 ⟨by show _ ≤ 603072; omega, by show _ ≤ 7182442; omega⟩) hS (fun H locs hP hS => ?_)
  refine lv_iload hx hb dL_law_1998 (lv_at hl 1 rfl) ?_
  refine lv_icmp_eq (tgt := 2005) hx hb dL_law_2000 (by decide) (fun c241 => ?_) (fun c241 => ?_)
  · rw [if_pos c241] at h
    refine lv_iload hx hb dL_law_2005 (lv_at hl 1 rfl) ?_
    refine lv_if_ne (tgt := 2022) hx hb dL_law_2007 (by decide) (fun c242 => ?_) (fun c242 => ?_)
    · rw [if_neg c242] at h
      refine lv_goto (tgt := 2765) hx hb dL_law_2022 (by decide) ?_
      refine lv_iinc (v := (x5 + (5 : Int32))) (lv' := [(5, .int (x5 + (5 : Int32))), (7, .int r239), (6, .int r238), (0, .ref b), (1, .ref (fw_ad E 0 10)), (2, .ref (fw_ad E 0 18)), (3, .ref (fw_ad E 0 27)), (4, .ref (fw_ad E 0 28))]) hx hb dL_law_2765 hl (k := 7) rfl rfl (by decide) rfl (fun ls hl => ?_)
      refine lv_goto (tgt := 28) hx hb dL_law_2768 (by decide) ?_
      exact ih _ _ _ _ H locs ls _ _ h hP hS (lv_sub hl [3, 4, 5, 6, 7, 0] rfl) (by omega) (by omega)
    · rw [if_pos c242] at h
      refine lv_aload_n hx hb dL_law_2010 rfl (lv_at hl 5 rfl) ?_
      refine lv_iconst (v := (0 : Int32)) hx hb dL_law_2011 (by decide) ?_
      refine va_lald (D := fw_D E) hx hb hK (fw_at hP (fw_V0 (f := 27) (by decide) (by decide))) 0 6 rfl rfl (fw_in_e (n := 1) (by decide)) dL_law_2012 ?_
      refine lv_iload hx hb dL_law_2013 (lv_at hl 0 rfl) ?_
      refine lv_i2l (v := r239.toInt64) hx hb dL_law_2015 rfl ?_
      refine W.lcmp hx hb dL_law_2016 ?_
      refine lv_if_eq (tgt := 2022) hx hb dL_law_2017 (by decide) (fun c243 => ?_) (fun c243 => ?_)
      · rw [if_pos c243] at h
        refine lv_goto (tgt := 2765) hx hb dL_law_2022 (by decide) ?_
        refine lv_iinc (v := (x5 + (5 : Int32))) (lv' := [(5, .int (x5 + (5 : Int32))), (7, .int r239), (6, .int r238), (0, .ref b), (1, .ref (fw_ad E 0 10)), (2, .ref (fw_ad E 0 18)), (3, .ref (fw_ad E 0 27)), (4, .ref (fw_ad E 0 28))]) hx hb dL_law_2765 hl (k := 7) rfl rfl (by decide) rfl (fun ls hl => ?_)
        refine lv_goto (tgt := 28) hx hb dL_law_2768 (by decide) ?_
        exact ih _ _ _ _ H locs ls _ _ h hP hS (lv_sub hl [3, 4, 5, 6, 7, 0] rfl) (by omega) (by omega)
      · rw [if_neg c243] at h
        refine lv_iconst (v := (0 : Int32)) hx hb dL_law_2020 (by decide) ?_
        cases h
  · rw [if_neg c241] at h
    refine lv_iconst (v := (0 : Int32)) hx hb dL_law_2003 (by decide) ?_
    cases h
set_option maxHeartbeats 4000000 in
set_option maxRecDepth 100000 in
theorem law_C2025 {p : Program} {l : Launch} {e : Env} {s : State} {m : MethodId} {below : List Frame} {meth : Method} {c : Code} {b L : Nat} {xs : Nat → Int32} {E : fw_E} {Q : State → Prop} (C0 : lc_At p l s m meth c b L xs E) (n : Nat) (K : fw_M → Int64 → UInt64 → Int32 → Option Unit) (ih : ∀ (μ : fw_M) (o : Int64) (d : UInt64) (x5 : Int32) (H : Heap) (locs : List Loc) (ls : Array Slot) (cells slots : Nat), K μ o d x5 = some () → fw_P E o d μ H → va_S (fw_A E) s.heap H locs → lv_has ls 9 [(0, .ref b), (1, .ref (fw_ad E 0 10)), (2, .ref (fw_ad E 0 18)), (3, .ref (fw_ad E 0 27)), (4, .ref (fw_ad E 0 28)), (5, .int x5)] → cells + 4 * n ≤ 603072 → slots + 24 * n ≤ 7182442 → W p l e room_1 s m #[Value.ref b] below meth c H locs cells slots Q (F0 m 28 ls [])) : ∀ (μ : fw_M) (o : Int64) (d : UInt64) (x5 : Int32) (H : Heap) (locs : List Loc) (ls : Array Slot) (cells slots : Nat), f_law_C2025 K xs L μ o d x5 = some () → fw_P E o d μ H → va_S (fw_A E) s.heap H locs → lv_has ls 9 [(0, .ref b), (1, .ref (fw_ad E 0 10)), (2, .ref (fw_ad E 0 18)), (3, .ref (fw_ad E 0 27)), (4, .ref (fw_ad E 0 28)), (5, .int x5)] → cells + 4 * (n + 1) ≤ 603072 → slots + 24 * (n + 1) ≤ 7182442 → W p l e room_1 s m #[Value.ref b] below meth c H locs cells slots Q (F0 m 2025 ls []) := by
  obtain ⟨hx, hb, hml, hown, hU, hK, hSt, hN2, hE, hst, hX, hbl, hbA, hz⟩ := C0
  intro μ o d x5 H locs ls cells slots h hP hS hl hc1 hc2
  unfold f_law_C2025 at h
  refine lv_aload_n hx hb dL_law_2025 rfl (lv_at hl 1 rfl) ?_
  refine lv_aload_n hx hb dL_law_2026 rfl (lv_at hl 0 rfl) ?_
  refine lv_iload hx hb dL_law_2027 (lv_at hl 5 rfl) ?_
  refine lv_iconst (v := (1 : Int32)) hx hb dL_law_2029 (by decide) ?_
  refine lv_iadd hx hb dL_law_2030 ?_
  obtain ⟨g244, h⟩ := fw_g_e h
  refine va_sld hx hb hX hbl hbA hS (fw_in_e g244) dL_law_2031 ?_
  refine lv_aload_n hx hb dL_law_2032 rfl (lv_at hl 3 rfl) ?_
  obtain ⟨μ245, o245, d245, r245, hc245, h⟩ := fw_b4_e h
  refine fw_retL (vx_runSW (As := [.ref (fw_ad E 0 10), .int (xs (x5 + (1 : Int32)).toNatClampNeg), .ref (fw_ad E 0 27)]) (rest := []) ⟨hx, hb, hml, hown, hU⟩ (k_L_packed l hst hE (xs (x5 + (1 : Int32)).toNatClampNeg) hc245) (vx_cwSW 3 hU (fw_gSW m_842 m_843 m_0 m_844) rfl rfl rfl (by decide +kernel) ⟨(Nat.le_of_ble_eq_true rfl), (Nat.le_of_ble_eq_true rfl)⟩) ⟨fw_blind2, fun U hU9 hW9 => ⟨rfl, fw_pre hK hP hSt hS U hU9 hW9, fw_S2_go hN2 hW9⟩⟩ rfl rfl hl.1 rfl (lv_room (Nat.le_of_ble_eq_true rfl)) dL_law_2033 ⟨by show _ ≤ 603072; omega, by show _ ≤ 7182442; omega⟩) hS (fun H locs hP hS => ?_)
  refine lv_istore (lv' := [(6, .int r245), (0, .ref b), (1, .ref (fw_ad E 0 10)), (2, .ref (fw_ad E 0 18)), (3, .ref (fw_ad E 0 27)), (4, .ref (fw_ad E 0 28)), (5, .int x5)]) hx hb dL_law_2036 hl (by decide) rfl (fun ls hl => ?_)
  refine lv_aload_n hx hb dL_law_2038 rfl (lv_at hl 3 rfl) ?_
  refine lv_aload_n hx hb dL_law_2039 rfl (lv_at hl 1 rfl) ?_
  refine lv_iload hx hb dL_law_2040 (lv_at hl 6 rfl) ?_
  refine lv_iconst (v := (1 : Int32)) hx hb dL_law_2042 (by decide) ?_
  refine lv_iadd hx hb dL_law_2043 ?_
  refine va_sld hx hb hX hbl hbA hS (fw_in_e g244) dL_law_2044 ?_
  obtain ⟨μ246, r246, hc246, h⟩ := fw_b2_e h
  refine fw_ret (va_runV (As := [.int (xs (x5 + (1 : Int32)).toNatClampNeg)]) (rest := []) ⟨hx, hb, hml, hown, hU⟩ (k_X10_packed l hE (xs (x5 + (1 : Int32)).toNatClampNeg) hc246) (cwV 1 hU (fw_gV m_1449 m_1450 m_1451 m_9 m_1452) rfl rfl rfl (by decide +kernel) ⟨(Nat.le_of_ble_eq_true rfl), (Nat.le_of_ble_eq_true rfl)⟩) ⟨fw_blind, fw_recv hK hP (fw_V0 (f := 18) (by decide) (by decide)) rfl rfl, fun U hU9 hW9 => ⟨rfl, fw_pre hK hP hSt hS U hU9 hW9⟩⟩ rfl rfl hl.1 rfl (lv_room (Nat.le_of_ble_eq_true rfl)) dL_law_2045 ⟨by show _ ≤ 603072; omega, by show _ ≤ 7182442; omega⟩) hS (fun H locs hP hS => ?_)
  refine lv_lstore (lv' := [(7, .long r246), (6, .int r245), (0, .ref b), (1, .ref (fw_ad E 0 10)), (2, .ref (fw_ad E 0 18)), (3, .ref (fw_ad E 0 27)), (4, .ref (fw_ad E 0 28)), (5, .int x5)]) hx hb dL_law_2048 hl (by decide) rfl (fun ls hl => ?_)
  refine lv_aload_n hx hb dL_law_2050 rfl (lv_at hl 4 rfl) ?_
  obtain ⟨r247, hc247, h⟩ := fw_b1_e h
  refine fw_ret (va_runV (As := []) (rest := []) ⟨hx, hb, hml, hown, hU⟩ (k_X10_thrown l hE hc247) (cwV 0 hU (fw_gV m_1178 m_1179 m_1180 m_9 m_1181) rfl rfl rfl (by decide +kernel) ⟨(Nat.le_of_ble_eq_true rfl), (Nat.le_of_ble_eq_true rfl)⟩) ⟨fw_blind, fw_recv hK hP (fw_V0 (f := 18) (by decide) (by decide)) rfl rfl, fun U hU9 hW9 => ⟨rfl, fw_pre hK hP hSt hS U hU9 hW9⟩⟩ rfl rfl hl.1 rfl (lv_room (Nat.le_of_ble_eq_true rfl)) dL_law_2051 ⟨by show _ ≤ 603072; omega, by show _ ≤ 7182442; omega⟩) hS (fun H locs hP hS => ?_)
  refine lv_iload hx hb dL_law_2054 (lv_at hl 1 rfl) ?_
  refine lv_icmp_eq (tgt := 2061) hx hb dL_law_2056 (by decide) (fun c248 => ?_) (fun c248 => ?_)
  · rw [if_pos c248] at h
    refine lv_iload hx hb dL_law_2061 (lv_at hl 1 rfl) ?_
    refine lv_if_ne (tgt := 2077) hx hb dL_law_2063 (by decide) (fun c249 => ?_) (fun c249 => ?_)
    · rw [if_neg c249] at h
      refine lv_goto (tgt := 2765) hx hb dL_law_2077 (by decide) ?_
      refine lv_iinc (v := (x5 + (5 : Int32))) (lv' := [(5, .int (x5 + (5 : Int32))), (7, .long r246), (6, .int r245), (0, .ref b), (1, .ref (fw_ad E 0 10)), (2, .ref (fw_ad E 0 18)), (3, .ref (fw_ad E 0 27)), (4, .ref (fw_ad E 0 28))]) hx hb dL_law_2765 hl (k := 7) rfl rfl (by decide) rfl (fun ls hl => ?_)
      refine lv_goto (tgt := 28) hx hb dL_law_2768 (by decide) ?_
      exact ih _ _ _ _ H locs ls _ _ h hP hS (lv_sub hl [3, 4, 5, 6, 7, 0] rfl) (by omega) (by omega)
    · rw [if_pos c249] at h
      refine lv_aload_n hx hb dL_law_2066 rfl (lv_at hl 5 rfl) ?_
      refine lv_iconst (v := (0 : Int32)) hx hb dL_law_2067 (by decide) ?_
      refine va_lald (D := fw_D E) hx hb hK (fw_at hP (fw_V0 (f := 27) (by decide) (by decide))) 0 6 rfl rfl (fw_in_e (n := 1) (by decide)) dL_law_2068 ?_
      refine lv_lload hx hb dL_law_2069 (lv_at hl 0 rfl) ?_
      refine W.lcmp hx hb dL_law_2071 ?_
      refine lv_if_eq (tgt := 2077) hx hb dL_law_2072 (by decide) (fun c250 => ?_) (fun c250 => ?_)
      · rw [if_pos c250] at h
        refine lv_goto (tgt := 2765) hx hb dL_law_2077 (by decide) ?_
        refine lv_iinc (v := (x5 + (5 : Int32))) (lv' := [(5, .int (x5 + (5 : Int32))), (7, .long r246), (6, .int r245), (0, .ref b), (1, .ref (fw_ad E 0 10)), (2, .ref (fw_ad E 0 18)), (3, .ref (fw_ad E 0 27)), (4, .ref (fw_ad E 0 28))]) hx hb dL_law_2765 hl (k := 7) rfl rfl (by decide) rfl (fun ls hl => ?_)
        refine lv_goto (tgt := 28) hx hb dL_law_2768 (by decide) ?_
        exact ih _ _ _ _ H locs ls _ _ h hP hS (lv_sub hl [3, 4, 5, 6, 7, 0] rfl) (by omega) (by omega)
      · rw [if_neg c250] at h
        refine lv_iconst (v := (0 : Int32)) hx hb dL_law_2075 (by decide) ?_
        cases h
  · rw [if_neg c248] at h
    refine lv_iconst (v := (0 : Int32)) hx hb dL_law_2059 (by decide) ?_
    cases h
set_option maxHeartbeats 4000000 in
set_option maxRecDepth 100000 in
theorem law_C2080 {p : Program} {l : Launch} {e : Env} {s : State} {m : MethodId} {below : List Frame} {meth : Method} {c : Code} {b L : Nat} {xs : Nat → Int32} {E : fw_E} {Q : State → Prop} (C0 : lc_At p l s m meth c b L xs E) (n : Nat) (K : fw_M → Int64 → UInt64 → Int32 → Option Unit) (ih : ∀ (μ : fw_M) (o : Int64) (d : UInt64) (x5 : Int32) (H : Heap) (locs : List Loc) (ls : Array Slot) (cells slots : Nat), K μ o d x5 = some () → fw_P E o d μ H → va_S (fw_A E) s.heap H locs → lv_has ls 9 [(0, .ref b), (1, .ref (fw_ad E 0 10)), (2, .ref (fw_ad E 0 18)), (3, .ref (fw_ad E 0 27)), (4, .ref (fw_ad E 0 28)), (5, .int x5)] → cells + 4 * n ≤ 603072 → slots + 24 * n ≤ 7182442 → W p l e room_1 s m #[Value.ref b] below meth c H locs cells slots Q (F0 m 28 ls [])) : ∀ (μ : fw_M) (o : Int64) (d : UInt64) (x5 : Int32) (H : Heap) (locs : List Loc) (ls : Array Slot) (cells slots : Nat), f_law_C2080 K xs L μ o d x5 = some () → fw_P E o d μ H → va_S (fw_A E) s.heap H locs → lv_has ls 9 [(0, .ref b), (1, .ref (fw_ad E 0 10)), (2, .ref (fw_ad E 0 18)), (3, .ref (fw_ad E 0 27)), (4, .ref (fw_ad E 0 28)), (5, .int x5)] → cells + 4 * (n + 1) ≤ 603072 → slots + 24 * (n + 1) ≤ 7182442 → W p l e room_1 s m #[Value.ref b] below meth c H locs cells slots Q (F0 m 2080 ls []) := by
  obtain ⟨hx, hb, hml, hown, hU, hK, hSt, hN2, hE, hst, hX, hbl, hbA, hz⟩ := C0
  intro μ o d x5 H locs ls cells slots h hP hS hl hc1 hc2
  unfold f_law_C2080 at h
  refine lv_aload_n hx hb dL_law_2080 rfl (lv_at hl 1 rfl) ?_
  obtain ⟨r251, hc251, h⟩ := fw_b1_e h
  refine fw_ret (va_runV (As := []) (rest := []) ⟨hx, hb, hml, hown, hU⟩ (k_X9_runCount l hE hc251) (cwV 0 hU (fw_gV m_233 m_234 m_235 m_1 m_236) rfl rfl rfl (by decide +kernel) ⟨(Nat.le_of_ble_eq_true rfl), (Nat.le_of_ble_eq_true rfl)⟩) ⟨fw_blind, fw_recv hK hP (fw_V0 (f := 10) (by decide) (by decide)) rfl rfl, fun U hU9 hW9 => ⟨rfl, fw_pre hK hP hSt hS U hU9 hW9⟩⟩ rfl rfl hl.1 rfl (lv_room (Nat.le_of_ble_eq_true rfl)) dL_law_2081 ⟨by show _ ≤ 603072; omega, by show _ ≤ 7182442; omega⟩) hS (fun H locs hP hS => ?_)
  refine lv_aload_n hx hb dL_law_2084 rfl (lv_at hl 2 rfl) ?_
  obtain ⟨μ252, r252, hc252, h⟩ := fw_b2_e h
  refine fw_ret (va_runV (As := []) (rest := [.int r251]) ⟨hx, hb, hml, hown, hU⟩ (k_X10_runCount l hE hc252) (cwV 0 hU (fw_gV m_1453 m_1454 m_1455 m_9 m_1456) rfl rfl rfl (by decide +kernel) ⟨(Nat.le_of_ble_eq_true rfl), (Nat.le_of_ble_eq_true rfl)⟩) ⟨fw_blind, fw_recv hK hP (fw_V0 (f := 18) (by decide) (by decide)) rfl rfl, fun U hU9 hW9 => ⟨rfl, fw_pre hK hP hSt hS U hU9 hW9⟩⟩ rfl rfl hl.1 rfl (lv_room (Nat.le_of_ble_eq_true rfl)) dL_law_2085 ⟨by show _ ≤ 603072; omega, by show _ ≤ 7182442; omega⟩) hS (fun H locs hP hS => ?_)
  refine lv_icmp_eq (tgt := 2765) hx hb dL_law_2088 (by decide) (fun c253 => ?_) (fun c253 => ?_)
  · rw [if_pos c253] at h
    refine lv_iinc (v := (x5 + (5 : Int32))) (lv' := [(5, .int (x5 + (5 : Int32))), (0, .ref b), (1, .ref (fw_ad E 0 10)), (2, .ref (fw_ad E 0 18)), (3, .ref (fw_ad E 0 27)), (4, .ref (fw_ad E 0 28))]) hx hb dL_law_2765 hl (k := 5) rfl rfl (by decide) rfl (fun ls hl => ?_)
    refine lv_goto (tgt := 28) hx hb dL_law_2768 (by decide) ?_
    exact ih _ _ _ _ H locs ls _ _ h hP hS (lv_sub hl [1, 2, 3, 4, 5, 0] rfl) (by omega) (by omega)
  · rw [if_neg c253] at h
    refine lv_iconst (v := (0 : Int32)) hx hb dL_law_2091 (by decide) ?_
    cases h
set_option maxHeartbeats 4000000 in
set_option maxRecDepth 100000 in
theorem law_C2093 {p : Program} {l : Launch} {e : Env} {s : State} {m : MethodId} {below : List Frame} {meth : Method} {c : Code} {b L : Nat} {xs : Nat → Int32} {E : fw_E} {Q : State → Prop} (C0 : lc_At p l s m meth c b L xs E) (n : Nat) (K : fw_M → Int64 → UInt64 → Int32 → Option Unit) (ih : ∀ (μ : fw_M) (o : Int64) (d : UInt64) (x5 : Int32) (H : Heap) (locs : List Loc) (ls : Array Slot) (cells slots : Nat), K μ o d x5 = some () → fw_P E o d μ H → va_S (fw_A E) s.heap H locs → lv_has ls 9 [(0, .ref b), (1, .ref (fw_ad E 0 10)), (2, .ref (fw_ad E 0 18)), (3, .ref (fw_ad E 0 27)), (4, .ref (fw_ad E 0 28)), (5, .int x5)] → cells + 4 * n ≤ 603072 → slots + 24 * n ≤ 7182442 → W p l e room_1 s m #[Value.ref b] below meth c H locs cells slots Q (F0 m 28 ls [])) : ∀ (μ : fw_M) (o : Int64) (d : UInt64) (x5 : Int32) (H : Heap) (locs : List Loc) (ls : Array Slot) (cells slots : Nat), f_law_C2093 K xs L μ o d x5 = some () → fw_P E o d μ H → va_S (fw_A E) s.heap H locs → lv_has ls 9 [(0, .ref b), (1, .ref (fw_ad E 0 10)), (2, .ref (fw_ad E 0 18)), (3, .ref (fw_ad E 0 27)), (4, .ref (fw_ad E 0 28)), (5, .int x5)] → cells + 4 * (n + 1) ≤ 603072 → slots + 24 * (n + 1) ≤ 7182442 → W p l e room_1 s m #[Value.ref b] below meth c H locs cells slots Q (F0 m 2093 ls []) := by
  obtain ⟨hx, hb, hml, hown, hU, hK, hSt, hN2, hE, hst, hX, hbl, hbA, hz⟩ := C0
  intro μ o d x5 H locs ls cells slots h hP hS hl hc1 hc2
  unfold f_law_C2093 at h
  refine lv_aload_n hx hb dL_law_2093 rfl (lv_at hl 1 rfl) ?_
  refine lv_aload_n hx hb dL_law_2094 rfl (lv_at hl 0 rfl) ?_
  refine lv_iload hx hb dL_law_2095 (lv_at hl 5 rfl) ?_
  refine lv_iconst (v := (1 : Int32)) hx hb dL_law_2097 (by decide) ?_
  refine lv_iadd hx hb dL_law_2098 ?_
  obtain ⟨g254, h⟩ := fw_g_e h
  refine va_sld hx hb hX hbl hbA hS (fw_in_e g254) dL_law_2099 ?_
  refine lv_aload_n hx hb dL_law_2100 rfl (lv_at hl 3 rfl) ?_
  obtain ⟨μ255, o255, d255, r255, hc255, h⟩ := fw_b4_e h
  refine fw_retL (vx_runSW (As := [.ref (fw_ad E 0 10), .int (xs (x5 + (1 : Int32)).toNatClampNeg), .ref (fw_ad E 0 27)]) (rest := []) ⟨hx, hb, hml, hown, hU⟩ (k_L_dirtiest l hst hE (xs (x5 + (1 : Int32)).toNatClampNeg) hc255) (vx_cwSW 3 hU (fw_gSW m_853 m_854 m_0 m_855) rfl rfl rfl (by decide +kernel) ⟨(Nat.le_of_ble_eq_true rfl), (Nat.le_of_ble_eq_true rfl)⟩) ⟨fw_blind2, fun U hU9 hW9 => ⟨rfl, fw_pre hK hP hSt hS U hU9 hW9, fw_S2_go hN2 hW9⟩⟩ rfl rfl hl.1 rfl (lv_room (Nat.le_of_ble_eq_true rfl)) dL_law_2101 ⟨by show _ ≤ 603072; omega, by show _ ≤ 7182442; omega⟩) hS (fun H locs hP hS => ?_)
  refine lv_istore (lv' := [(6, .int r255), (0, .ref b), (1, .ref (fw_ad E 0 10)), (2, .ref (fw_ad E 0 18)), (3, .ref (fw_ad E 0 27)), (4, .ref (fw_ad E 0 28)), (5, .int x5)]) hx hb dL_law_2104 hl (by decide) rfl (fun ls hl => ?_)
  refine lv_aload_n hx hb dL_law_2106 rfl (lv_at hl 3 rfl) ?_
  refine lv_aload_n hx hb dL_law_2107 rfl (lv_at hl 1 rfl) ?_
  refine lv_iload hx hb dL_law_2108 (lv_at hl 6 rfl) ?_
  refine lv_iconst (v := (1 : Int32)) hx hb dL_law_2110 (by decide) ?_
  refine lv_iadd hx hb dL_law_2111 ?_
  refine va_sld hx hb hX hbl hbA hS (fw_in_e g254) dL_law_2112 ?_
  obtain ⟨μ256, r256, hc256, h⟩ := fw_b2_e h
  refine fw_ret (va_runV (As := [.int (xs (x5 + (1 : Int32)).toNatClampNeg)]) (rest := []) ⟨hx, hb, hml, hown, hU⟩ (k_X10_dirtiest l hE (xs (x5 + (1 : Int32)).toNatClampNeg) hc256) (cwV 1 hU (fw_gV m_1457 m_1458 m_1459 m_9 m_1460) rfl rfl rfl (by decide +kernel) ⟨(Nat.le_of_ble_eq_true rfl), (Nat.le_of_ble_eq_true rfl)⟩) ⟨fw_blind, fw_recv hK hP (fw_V0 (f := 18) (by decide) (by decide)) rfl rfl, fun U hU9 hW9 => ⟨rfl, fw_pre hK hP hSt hS U hU9 hW9⟩⟩ rfl rfl hl.1 rfl (lv_room (Nat.le_of_ble_eq_true rfl)) dL_law_2113 ⟨by show _ ≤ 603072; omega, by show _ ≤ 7182442; omega⟩) hS (fun H locs hP hS => ?_)
  refine lv_istore (lv' := [(7, .int r256), (6, .int r255), (0, .ref b), (1, .ref (fw_ad E 0 10)), (2, .ref (fw_ad E 0 18)), (3, .ref (fw_ad E 0 27)), (4, .ref (fw_ad E 0 28)), (5, .int x5)]) hx hb dL_law_2116 hl (by decide) rfl (fun ls hl => ?_)
  refine lv_aload_n hx hb dL_law_2118 rfl (lv_at hl 4 rfl) ?_
  obtain ⟨r257, hc257, h⟩ := fw_b1_e h
  refine fw_ret (va_runV (As := []) (rest := []) ⟨hx, hb, hml, hown, hU⟩ (k_X10_thrown l hE hc257) (cwV 0 hU (fw_gV m_1178 m_1179 m_1180 m_9 m_1181) rfl rfl rfl (by decide +kernel) ⟨(Nat.le_of_ble_eq_true rfl), (Nat.le_of_ble_eq_true rfl)⟩) ⟨fw_blind, fw_recv hK hP (fw_V0 (f := 18) (by decide) (by decide)) rfl rfl, fun U hU9 hW9 => ⟨rfl, fw_pre hK hP hSt hS U hU9 hW9⟩⟩ rfl rfl hl.1 rfl (lv_room (Nat.le_of_ble_eq_true rfl)) dL_law_2119 ⟨by show _ ≤ 603072; omega, by show _ ≤ 7182442; omega⟩) hS (fun H locs hP hS => ?_)
  refine lv_iload hx hb dL_law_2122 (lv_at hl 1 rfl) ?_
  refine lv_icmp_eq (tgt := 2129) hx hb dL_law_2124 (by decide) (fun c258 => ?_) (fun c258 => ?_)
  · rw [if_pos c258] at h
    refine lv_iload hx hb dL_law_2129 (lv_at hl 1 rfl) ?_
    refine lv_if_ne (tgt := 2146) hx hb dL_law_2131 (by decide) (fun c259 => ?_) (fun c259 => ?_)
    · rw [if_neg c259] at h
      refine lv_goto (tgt := 2765) hx hb dL_law_2146 (by decide) ?_
      refine lv_iinc (v := (x5 + (5 : Int32))) (lv' := [(5, .int (x5 + (5 : Int32))), (7, .int r256), (6, .int r255), (0, .ref b), (1, .ref (fw_ad E 0 10)), (2, .ref (fw_ad E 0 18)), (3, .ref (fw_ad E 0 27)), (4, .ref (fw_ad E 0 28))]) hx hb dL_law_2765 hl (k := 7) rfl rfl (by decide) rfl (fun ls hl => ?_)
      refine lv_goto (tgt := 28) hx hb dL_law_2768 (by decide) ?_
      exact ih _ _ _ _ H locs ls _ _ h hP hS (lv_sub hl [3, 4, 5, 6, 7, 0] rfl) (by omega) (by omega)
    · rw [if_pos c259] at h
      refine lv_aload_n hx hb dL_law_2134 rfl (lv_at hl 5 rfl) ?_
      refine lv_iconst (v := (0 : Int32)) hx hb dL_law_2135 (by decide) ?_
      refine va_lald (D := fw_D E) hx hb hK (fw_at hP (fw_V0 (f := 27) (by decide) (by decide))) 0 6 rfl rfl (fw_in_e (n := 1) (by decide)) dL_law_2136 ?_
      refine lv_iload hx hb dL_law_2137 (lv_at hl 0 rfl) ?_
      refine lv_i2l (v := r256.toInt64) hx hb dL_law_2139 rfl ?_
      refine W.lcmp hx hb dL_law_2140 ?_
      refine lv_if_eq (tgt := 2146) hx hb dL_law_2141 (by decide) (fun c260 => ?_) (fun c260 => ?_)
      · rw [if_pos c260] at h
        refine lv_goto (tgt := 2765) hx hb dL_law_2146 (by decide) ?_
        refine lv_iinc (v := (x5 + (5 : Int32))) (lv' := [(5, .int (x5 + (5 : Int32))), (7, .int r256), (6, .int r255), (0, .ref b), (1, .ref (fw_ad E 0 10)), (2, .ref (fw_ad E 0 18)), (3, .ref (fw_ad E 0 27)), (4, .ref (fw_ad E 0 28))]) hx hb dL_law_2765 hl (k := 7) rfl rfl (by decide) rfl (fun ls hl => ?_)
        refine lv_goto (tgt := 28) hx hb dL_law_2768 (by decide) ?_
        exact ih _ _ _ _ H locs ls _ _ h hP hS (lv_sub hl [3, 4, 5, 6, 7, 0] rfl) (by omega) (by omega)
      · rw [if_neg c260] at h
        refine lv_iconst (v := (0 : Int32)) hx hb dL_law_2144 (by decide) ?_
        cases h
  · rw [if_neg c258] at h
    refine lv_iconst (v := (0 : Int32)) hx hb dL_law_2127 (by decide) ?_
    cases h
set_option maxHeartbeats 4000000 in
set_option maxRecDepth 100000 in
theorem law_C2149 {p : Program} {l : Launch} {e : Env} {s : State} {m : MethodId} {below : List Frame} {meth : Method} {c : Code} {b L : Nat} {xs : Nat → Int32} {E : fw_E} {Q : State → Prop} (C0 : lc_At p l s m meth c b L xs E) (n : Nat) (K : fw_M → Int64 → UInt64 → Int32 → Option Unit) (ih : ∀ (μ : fw_M) (o : Int64) (d : UInt64) (x5 : Int32) (H : Heap) (locs : List Loc) (ls : Array Slot) (cells slots : Nat), K μ o d x5 = some () → fw_P E o d μ H → va_S (fw_A E) s.heap H locs → lv_has ls 9 [(0, .ref b), (1, .ref (fw_ad E 0 10)), (2, .ref (fw_ad E 0 18)), (3, .ref (fw_ad E 0 27)), (4, .ref (fw_ad E 0 28)), (5, .int x5)] → cells + 4 * n ≤ 603072 → slots + 24 * n ≤ 7182442 → W p l e room_1 s m #[Value.ref b] below meth c H locs cells slots Q (F0 m 28 ls [])) : ∀ (μ : fw_M) (o : Int64) (d : UInt64) (x5 : Int32) (H : Heap) (locs : List Loc) (ls : Array Slot) (cells slots : Nat), f_law_C2149 K xs L μ o d x5 = some () → fw_P E o d μ H → va_S (fw_A E) s.heap H locs → lv_has ls 9 [(0, .ref b), (1, .ref (fw_ad E 0 10)), (2, .ref (fw_ad E 0 18)), (3, .ref (fw_ad E 0 27)), (4, .ref (fw_ad E 0 28)), (5, .int x5)] → cells + 4 * (n + 1) ≤ 603072 → slots + 24 * (n + 1) ≤ 7182442 → W p l e room_1 s m #[Value.ref b] below meth c H locs cells slots Q (F0 m 2149 ls []) := by
  obtain ⟨hx, hb, hml, hown, hU, hK, hSt, hN2, hE, hst, hX, hbl, hbA, hz⟩ := C0
  intro μ o d x5 H locs ls cells slots h hP hS hl hc1 hc2
  unfold f_law_C2149 at h
  refine lv_aload_n hx hb dL_law_2149 rfl (lv_at hl 1 rfl) ?_
  refine lv_aload_n hx hb dL_law_2150 rfl (lv_at hl 0 rfl) ?_
  refine lv_iload hx hb dL_law_2151 (lv_at hl 5 rfl) ?_
  refine lv_iconst (v := (1 : Int32)) hx hb dL_law_2153 (by decide) ?_
  refine lv_iadd hx hb dL_law_2154 ?_
  obtain ⟨g261, h⟩ := fw_g_e h
  refine va_sld hx hb hX hbl hbA hS (fw_in_e g261) dL_law_2155 ?_
  refine lv_aload_n hx hb dL_law_2156 rfl (lv_at hl 3 rfl) ?_
  obtain ⟨μ262, o262, d262, r262, hc262, h⟩ := fw_b4_e h
  refine fw_retL (vx_runSW (As := [.ref (fw_ad E 0 10), .int (xs (x5 + (1 : Int32)).toNatClampNeg), .ref (fw_ad E 0 27)]) (rest := []) ⟨hx, hb, hml, hown, hU⟩ (k_L_spender l hst hE (xs (x5 + (1 : Int32)).toNatClampNeg) hc262) (vx_cwSW 3 hU (fw_gSW m_865 m_866 m_0 m_867) rfl rfl rfl (by decide +kernel) ⟨(Nat.le_of_ble_eq_true rfl), (Nat.le_of_ble_eq_true rfl)⟩) ⟨fw_blind2, fun U hU9 hW9 => ⟨rfl, fw_pre hK hP hSt hS U hU9 hW9, fw_S2_go hN2 hW9⟩⟩ rfl rfl hl.1 rfl (lv_room (Nat.le_of_ble_eq_true rfl)) dL_law_2157 ⟨by show _ ≤ 603072; omega, by show _ ≤ 7182442; omega⟩) hS (fun H locs hP hS => ?_)
  refine lv_istore (lv' := [(6, .int r262), (0, .ref b), (1, .ref (fw_ad E 0 10)), (2, .ref (fw_ad E 0 18)), (3, .ref (fw_ad E 0 27)), (4, .ref (fw_ad E 0 28)), (5, .int x5)]) hx hb dL_law_2160 hl (by decide) rfl (fun ls hl => ?_)
  refine lv_aload_n hx hb dL_law_2162 rfl (lv_at hl 3 rfl) ?_
  refine lv_aload_n hx hb dL_law_2163 rfl (lv_at hl 1 rfl) ?_
  refine lv_iload hx hb dL_law_2164 (lv_at hl 6 rfl) ?_
  refine lv_iconst (v := (1 : Int32)) hx hb dL_law_2166 (by decide) ?_
  refine lv_iadd hx hb dL_law_2167 ?_
  refine va_sld hx hb hX hbl hbA hS (fw_in_e g261) dL_law_2168 ?_
  obtain ⟨μ263, r263, hc263, h⟩ := fw_b2_e h
  refine fw_ret (va_runV (As := [.int (xs (x5 + (1 : Int32)).toNatClampNeg)]) (rest := []) ⟨hx, hb, hml, hown, hU⟩ (k_X10_spender l hE (xs (x5 + (1 : Int32)).toNatClampNeg) hc263) (cwV 1 hU (fw_gV m_1465 m_1466 m_1467 m_9 m_1468) rfl rfl rfl (by decide +kernel) ⟨(Nat.le_of_ble_eq_true rfl), (Nat.le_of_ble_eq_true rfl)⟩) ⟨fw_blind, fw_recv hK hP (fw_V0 (f := 18) (by decide) (by decide)) rfl rfl, fun U hU9 hW9 => ⟨rfl, fw_pre hK hP hSt hS U hU9 hW9⟩⟩ rfl rfl hl.1 rfl (lv_room (Nat.le_of_ble_eq_true rfl)) dL_law_2169 ⟨by show _ ≤ 603072; omega, by show _ ≤ 7182442; omega⟩) hS (fun H locs hP hS => ?_)
  refine lv_istore (lv' := [(7, .int r263), (6, .int r262), (0, .ref b), (1, .ref (fw_ad E 0 10)), (2, .ref (fw_ad E 0 18)), (3, .ref (fw_ad E 0 27)), (4, .ref (fw_ad E 0 28)), (5, .int x5)]) hx hb dL_law_2172 hl (by decide) rfl (fun ls hl => ?_)
  refine lv_aload_n hx hb dL_law_2174 rfl (lv_at hl 4 rfl) ?_
  obtain ⟨r264, hc264, h⟩ := fw_b1_e h
  refine fw_ret (va_runV (As := []) (rest := []) ⟨hx, hb, hml, hown, hU⟩ (k_X10_thrown l hE hc264) (cwV 0 hU (fw_gV m_1178 m_1179 m_1180 m_9 m_1181) rfl rfl rfl (by decide +kernel) ⟨(Nat.le_of_ble_eq_true rfl), (Nat.le_of_ble_eq_true rfl)⟩) ⟨fw_blind, fw_recv hK hP (fw_V0 (f := 18) (by decide) (by decide)) rfl rfl, fun U hU9 hW9 => ⟨rfl, fw_pre hK hP hSt hS U hU9 hW9⟩⟩ rfl rfl hl.1 rfl (lv_room (Nat.le_of_ble_eq_true rfl)) dL_law_2175 ⟨by show _ ≤ 603072; omega, by show _ ≤ 7182442; omega⟩) hS (fun H locs hP hS => ?_)
  refine lv_iload hx hb dL_law_2178 (lv_at hl 1 rfl) ?_
  refine lv_icmp_eq (tgt := 2185) hx hb dL_law_2180 (by decide) (fun c265 => ?_) (fun c265 => ?_)
  · rw [if_pos c265] at h
    refine lv_iload hx hb dL_law_2185 (lv_at hl 1 rfl) ?_
    refine lv_if_ne (tgt := 2202) hx hb dL_law_2187 (by decide) (fun c266 => ?_) (fun c266 => ?_)
    · rw [if_neg c266] at h
      refine lv_goto (tgt := 2765) hx hb dL_law_2202 (by decide) ?_
      refine lv_iinc (v := (x5 + (5 : Int32))) (lv' := [(5, .int (x5 + (5 : Int32))), (7, .int r263), (6, .int r262), (0, .ref b), (1, .ref (fw_ad E 0 10)), (2, .ref (fw_ad E 0 18)), (3, .ref (fw_ad E 0 27)), (4, .ref (fw_ad E 0 28))]) hx hb dL_law_2765 hl (k := 7) rfl rfl (by decide) rfl (fun ls hl => ?_)
      refine lv_goto (tgt := 28) hx hb dL_law_2768 (by decide) ?_
      exact ih _ _ _ _ H locs ls _ _ h hP hS (lv_sub hl [3, 4, 5, 6, 7, 0] rfl) (by omega) (by omega)
    · rw [if_pos c266] at h
      refine lv_aload_n hx hb dL_law_2190 rfl (lv_at hl 5 rfl) ?_
      refine lv_iconst (v := (0 : Int32)) hx hb dL_law_2191 (by decide) ?_
      refine va_lald (D := fw_D E) hx hb hK (fw_at hP (fw_V0 (f := 27) (by decide) (by decide))) 0 6 rfl rfl (fw_in_e (n := 1) (by decide)) dL_law_2192 ?_
      refine lv_iload hx hb dL_law_2193 (lv_at hl 0 rfl) ?_
      refine lv_i2l (v := r263.toInt64) hx hb dL_law_2195 rfl ?_
      refine W.lcmp hx hb dL_law_2196 ?_
      refine lv_if_eq (tgt := 2202) hx hb dL_law_2197 (by decide) (fun c267 => ?_) (fun c267 => ?_)
      · rw [if_pos c267] at h
        refine lv_goto (tgt := 2765) hx hb dL_law_2202 (by decide) ?_
        refine lv_iinc (v := (x5 + (5 : Int32))) (lv' := [(5, .int (x5 + (5 : Int32))), (7, .int r263), (6, .int r262), (0, .ref b), (1, .ref (fw_ad E 0 10)), (2, .ref (fw_ad E 0 18)), (3, .ref (fw_ad E 0 27)), (4, .ref (fw_ad E 0 28))]) hx hb dL_law_2765 hl (k := 7) rfl rfl (by decide) rfl (fun ls hl => ?_)
        refine lv_goto (tgt := 28) hx hb dL_law_2768 (by decide) ?_
        exact ih _ _ _ _ H locs ls _ _ h hP hS (lv_sub hl [3, 4, 5, 6, 7, 0] rfl) (by omega) (by omega)
      · rw [if_neg c267] at h
        refine lv_iconst (v := (0 : Int32)) hx hb dL_law_2200 (by decide) ?_
        cases h
  · rw [if_neg c265] at h
    refine lv_iconst (v := (0 : Int32)) hx hb dL_law_2183 (by decide) ?_
    cases h
set_option maxHeartbeats 4000000 in
set_option maxRecDepth 100000 in
theorem law_C2205 {p : Program} {l : Launch} {e : Env} {s : State} {m : MethodId} {below : List Frame} {meth : Method} {c : Code} {b L : Nat} {xs : Nat → Int32} {E : fw_E} {Q : State → Prop} (C0 : lc_At p l s m meth c b L xs E) (n : Nat) (K : fw_M → Int64 → UInt64 → Int32 → Option Unit) (ih : ∀ (μ : fw_M) (o : Int64) (d : UInt64) (x5 : Int32) (H : Heap) (locs : List Loc) (ls : Array Slot) (cells slots : Nat), K μ o d x5 = some () → fw_P E o d μ H → va_S (fw_A E) s.heap H locs → lv_has ls 9 [(0, .ref b), (1, .ref (fw_ad E 0 10)), (2, .ref (fw_ad E 0 18)), (3, .ref (fw_ad E 0 27)), (4, .ref (fw_ad E 0 28)), (5, .int x5)] → cells + 4 * n ≤ 603072 → slots + 24 * n ≤ 7182442 → W p l e room_1 s m #[Value.ref b] below meth c H locs cells slots Q (F0 m 28 ls [])) : ∀ (μ : fw_M) (o : Int64) (d : UInt64) (x5 : Int32) (H : Heap) (locs : List Loc) (ls : Array Slot) (cells slots : Nat), f_law_C2205 K xs L μ o d x5 = some () → fw_P E o d μ H → va_S (fw_A E) s.heap H locs → lv_has ls 9 [(0, .ref b), (1, .ref (fw_ad E 0 10)), (2, .ref (fw_ad E 0 18)), (3, .ref (fw_ad E 0 27)), (4, .ref (fw_ad E 0 28)), (5, .int x5)] → cells + 4 * (n + 1) ≤ 603072 → slots + 24 * (n + 1) ≤ 7182442 → W p l e room_1 s m #[Value.ref b] below meth c H locs cells slots Q (F0 m 2205 ls []) := by
  obtain ⟨hx, hb, hml, hown, hU, hK, hSt, hN2, hE, hst, hX, hbl, hbA, hz⟩ := C0
  intro μ o d x5 H locs ls cells slots h hP hS hl hc1 hc2
  unfold f_law_C2205 at h
  refine lv_aload_n hx hb dL_law_2205 rfl (lv_at hl 1 rfl) ?_
  refine lv_aload hx hb dL_law_2206 (lv_at hl 4 rfl) ?_
  obtain ⟨μ268, o268, d268, r268, hc268, h⟩ := fw_b4_e h
  refine fw_retL (vx_runSW (As := [.ref (fw_ad E 0 10), .ref (fw_ad E 0 28)]) (rest := []) ⟨hx, hb, hml, hown, hU⟩ (k_L_meanStains l hst hE  hc268) (vx_cwSW 2 hU (fw_gSW m_877 m_878 m_0 m_879) rfl rfl rfl (by decide +kernel) ⟨(Nat.le_of_ble_eq_true rfl), (Nat.le_of_ble_eq_true rfl)⟩) ⟨fw_blind2, fun U hU9 hW9 => ⟨rfl, fw_pre hK hP hSt hS U hU9 hW9, fw_S2_go hN2 hW9⟩⟩ rfl rfl hl.1 rfl (lv_room (Nat.le_of_ble_eq_true rfl)) dL_law_2208 ⟨by show _ ≤ 603072; omega, by show _ ≤ 7182442; omega⟩) hS (fun H locs hP hS => ?_)
  refine lv_istore (lv' := [(6, .int r268), (0, .ref b), (1, .ref (fw_ad E 0 10)), (2, .ref (fw_ad E 0 18)), (3, .ref (fw_ad E 0 27)), (4, .ref (fw_ad E 0 28)), (5, .int x5)]) hx hb dL_law_2211 hl (by decide) rfl (fun ls hl => ?_)
  refine lv_aload_n hx hb dL_law_2213 rfl (lv_at hl 3 rfl) ?_
  obtain ⟨μ269, r269, hc269, h⟩ := fw_b2_e h
  refine fw_ret (va_runV (As := []) (rest := []) ⟨hx, hb, hml, hown, hU⟩ (k_X10_meanStains l hE hc269) (cwV 0 hU (fw_gV m_1469 m_1470 m_1471 m_9 m_1472) rfl rfl rfl (by decide +kernel) ⟨(Nat.le_of_ble_eq_true rfl), (Nat.le_of_ble_eq_true rfl)⟩) ⟨fw_blind, fw_recv hK hP (fw_V0 (f := 18) (by decide) (by decide)) rfl rfl, fun U hU9 hW9 => ⟨rfl, fw_pre hK hP hSt hS U hU9 hW9⟩⟩ rfl rfl hl.1 rfl (lv_room (Nat.le_of_ble_eq_true rfl)) dL_law_2214 ⟨by show _ ≤ 603072; omega, by show _ ≤ 7182442; omega⟩) hS (fun H locs hP hS => ?_)
  refine lv_dstore (lv' := [(7, .double r269), (6, .int r268), (0, .ref b), (1, .ref (fw_ad E 0 10)), (2, .ref (fw_ad E 0 18)), (3, .ref (fw_ad E 0 27)), (4, .ref (fw_ad E 0 28)), (5, .int x5)]) hx hb dL_law_2217 hl (by decide) rfl (fun ls hl => ?_)
  refine lv_aload_n hx hb dL_law_2219 rfl (lv_at hl 4 rfl) ?_
  obtain ⟨r270, hc270, h⟩ := fw_b1_e h
  refine fw_ret (va_runV (As := []) (rest := []) ⟨hx, hb, hml, hown, hU⟩ (k_X10_thrown l hE hc270) (cwV 0 hU (fw_gV m_1178 m_1179 m_1180 m_9 m_1181) rfl rfl rfl (by decide +kernel) ⟨(Nat.le_of_ble_eq_true rfl), (Nat.le_of_ble_eq_true rfl)⟩) ⟨fw_blind, fw_recv hK hP (fw_V0 (f := 18) (by decide) (by decide)) rfl rfl, fun U hU9 hW9 => ⟨rfl, fw_pre hK hP hSt hS U hU9 hW9⟩⟩ rfl rfl hl.1 rfl (lv_room (Nat.le_of_ble_eq_true rfl)) dL_law_2220 ⟨by show _ ≤ 603072; omega, by show _ ≤ 7182442; omega⟩) hS (fun H locs hP hS => ?_)
  refine lv_iload hx hb dL_law_2223 (lv_at hl 1 rfl) ?_
  refine lv_icmp_eq (tgt := 2230) hx hb dL_law_2225 (by decide) (fun c271 => ?_) (fun c271 => ?_)
  · rw [if_pos c271] at h
    refine lv_iload hx hb dL_law_2230 (lv_at hl 1 rfl) ?_
    refine lv_if_ne (tgt := 2267) hx hb dL_law_2232 (by decide) (fun c272 => ?_) (fun c272 => ?_)
    · rw [if_neg c272] at h
      refine lv_goto (tgt := 2765) hx hb dL_law_2267 (by decide) ?_
      refine lv_iinc (v := (x5 + (5 : Int32))) (lv' := [(5, .int (x5 + (5 : Int32))), (7, .double r269), (6, .int r268), (0, .ref b), (1, .ref (fw_ad E 0 10)), (2, .ref (fw_ad E 0 18)), (3, .ref (fw_ad E 0 27)), (4, .ref (fw_ad E 0 28))]) hx hb dL_law_2765 hl (k := 7) rfl rfl (by decide) rfl (fun ls hl => ?_)
      refine lv_goto (tgt := 28) hx hb dL_law_2768 (by decide) ?_
      exact ih _ _ _ _ H locs ls _ _ h hP hS (lv_sub hl [3, 4, 5, 6, 7, 0] rfl) (by omega) (by omega)
    · rw [if_pos c272] at h
      refine lv_aload hx hb dL_law_2235 (lv_at hl 6 rfl) ?_
      refine lv_iconst (v := (0 : Int32)) hx hb dL_law_2237 (by decide) ?_
      refine va_dald (D := fw_D E) hx hb hK (fw_at hP (fw_V0 (f := 28) (by decide) (by decide))) 0 7 rfl rfl (fw_in_e (n := 1) (by decide)) dL_law_2238 ?_
      refine lv_dload hx hb dL_law_2239 (lv_at hl 0 rfl) ?_
      refine lv_dcmp (op := CmpOp.l) hx hb dL_law_2241 ?_
      refine lv_if_eq (tgt := 2267) hx hb dL_law_2242 (by decide) (fun c273 => ?_) (fun c273 => ?_)
      · rw [if_pos c273] at h
        refine lv_goto (tgt := 2765) hx hb dL_law_2267 (by decide) ?_
        refine lv_iinc (v := (x5 + (5 : Int32))) (lv' := [(5, .int (x5 + (5 : Int32))), (7, .double r269), (6, .int r268), (0, .ref b), (1, .ref (fw_ad E 0 10)), (2, .ref (fw_ad E 0 18)), (3, .ref (fw_ad E 0 27)), (4, .ref (fw_ad E 0 28))]) hx hb dL_law_2765 hl (k := 7) rfl rfl (by decide) rfl (fun ls hl => ?_)
        refine lv_goto (tgt := 28) hx hb dL_law_2768 (by decide) ?_
        exact ih _ _ _ _ H locs ls _ _ h hP hS (lv_sub hl [3, 4, 5, 6, 7, 0] rfl) (by omega) (by omega)
      · rw [if_neg c273] at h
        refine lv_aload hx hb dL_law_2245 (lv_at hl 6 rfl) ?_
        refine lv_iconst (v := (0 : Int32)) hx hb dL_law_2247 (by decide) ?_
        refine va_dald (D := fw_D E) hx hb hK (fw_at hP (fw_V0 (f := 28) (by decide) (by decide))) 0 7 rfl rfl (fw_in_e (n := 1) (by decide)) dL_law_2248 ?_
        refine lv_aload hx hb dL_law_2249 (lv_at hl 6 rfl) ?_
        refine lv_iconst (v := (0 : Int32)) hx hb dL_law_2251 (by decide) ?_
        refine va_dald (D := fw_D E) hx hb hK (fw_at hP (fw_V0 (f := 28) (by decide) (by decide))) 0 7 rfl rfl (fw_in_e (n := 1) (by decide)) dL_law_2252 ?_
        refine lv_dcmp (op := CmpOp.l) hx hb dL_law_2253 ?_
        refine lv_if_eq (tgt := 2265) hx hb dL_law_2254 (by decide) (fun c274 => ?_) (fun c274 => ?_)
        · rw [if_pos c274] at h
          refine lv_iconst (v := (0 : Int32)) hx hb dL_law_2265 (by decide) ?_
          cases h
        · rw [if_neg c274] at h
          refine lv_dload hx hb dL_law_2257 (lv_at hl 0 rfl) ?_
          refine lv_dload hx hb dL_law_2259 (lv_at hl 0 rfl) ?_
          refine lv_dcmp (op := CmpOp.l) hx hb dL_law_2261 ?_
          refine lv_if_ne (tgt := 2267) hx hb dL_law_2262 (by decide) (fun c275 => ?_) (fun c275 => ?_)
          · rw [if_neg c275] at h
            refine lv_goto (tgt := 2765) hx hb dL_law_2267 (by decide) ?_
            refine lv_iinc (v := (x5 + (5 : Int32))) (lv' := [(5, .int (x5 + (5 : Int32))), (7, .double r269), (6, .int r268), (0, .ref b), (1, .ref (fw_ad E 0 10)), (2, .ref (fw_ad E 0 18)), (3, .ref (fw_ad E 0 27)), (4, .ref (fw_ad E 0 28))]) hx hb dL_law_2765 hl (k := 7) rfl rfl (by decide) rfl (fun ls hl => ?_)
            refine lv_goto (tgt := 28) hx hb dL_law_2768 (by decide) ?_
            exact ih _ _ _ _ H locs ls _ _ h hP hS (lv_sub hl [3, 4, 5, 6, 7, 0] rfl) (by omega) (by omega)
          · rw [if_pos c275] at h
            refine lv_iconst (v := (0 : Int32)) hx hb dL_law_2265 (by decide) ?_
            cases h
  · rw [if_neg c271] at h
    refine lv_iconst (v := (0 : Int32)) hx hb dL_law_2228 (by decide) ?_
    cases h
set_option maxHeartbeats 4000000 in
set_option maxRecDepth 100000 in
theorem law_C2270 {p : Program} {l : Launch} {e : Env} {s : State} {m : MethodId} {below : List Frame} {meth : Method} {c : Code} {b L : Nat} {xs : Nat → Int32} {E : fw_E} {Q : State → Prop} (C0 : lc_At p l s m meth c b L xs E) (n : Nat) (K : fw_M → Int64 → UInt64 → Int32 → Option Unit) (ih : ∀ (μ : fw_M) (o : Int64) (d : UInt64) (x5 : Int32) (H : Heap) (locs : List Loc) (ls : Array Slot) (cells slots : Nat), K μ o d x5 = some () → fw_P E o d μ H → va_S (fw_A E) s.heap H locs → lv_has ls 9 [(0, .ref b), (1, .ref (fw_ad E 0 10)), (2, .ref (fw_ad E 0 18)), (3, .ref (fw_ad E 0 27)), (4, .ref (fw_ad E 0 28)), (5, .int x5)] → cells + 4 * n ≤ 603072 → slots + 24 * n ≤ 7182442 → W p l e room_1 s m #[Value.ref b] below meth c H locs cells slots Q (F0 m 28 ls [])) : ∀ (μ : fw_M) (o : Int64) (d : UInt64) (x5 : Int32) (H : Heap) (locs : List Loc) (ls : Array Slot) (cells slots : Nat), f_law_C2270 K xs L μ o d x5 = some () → fw_P E o d μ H → va_S (fw_A E) s.heap H locs → lv_has ls 9 [(0, .ref b), (1, .ref (fw_ad E 0 10)), (2, .ref (fw_ad E 0 18)), (3, .ref (fw_ad E 0 27)), (4, .ref (fw_ad E 0 28)), (5, .int x5)] → cells + 4 * (n + 1) ≤ 603072 → slots + 24 * (n + 1) ≤ 7182442 → W p l e room_1 s m #[Value.ref b] below meth c H locs cells slots Q (F0 m 2270 ls []) := by
  obtain ⟨hx, hb, hml, hown, hU, hK, hSt, hN2, hE, hst, hX, hbl, hbA, hz⟩ := C0
  intro μ o d x5 H locs ls cells slots h hP hS hl hc1 hc2
  unfold f_law_C2270 at h
  refine lv_aload_n hx hb dL_law_2270 rfl (lv_at hl 1 rfl) ?_
  refine lv_aload hx hb dL_law_2271 (lv_at hl 4 rfl) ?_
  obtain ⟨μ276, o276, d276, r276, hc276, h⟩ := fw_b4_e h
  refine fw_retL (vx_runSW (As := [.ref (fw_ad E 0 10), .ref (fw_ad E 0 28)]) (rest := []) ⟨hx, hb, hml, hown, hU⟩ (k_L_lostShare l hst hE  hc276) (vx_cwSW 2 hU (fw_gSW m_901 m_902 m_0 m_903) rfl rfl rfl (by decide +kernel) ⟨(Nat.le_of_ble_eq_true rfl), (Nat.le_of_ble_eq_true rfl)⟩) ⟨fw_blind2, fun U hU9 hW9 => ⟨rfl, fw_pre hK hP hSt hS U hU9 hW9, fw_S2_go hN2 hW9⟩⟩ rfl rfl hl.1 rfl (lv_room (Nat.le_of_ble_eq_true rfl)) dL_law_2273 ⟨by show _ ≤ 603072; omega, by show _ ≤ 7182442; omega⟩) hS (fun H locs hP hS => ?_)
  refine lv_istore (lv' := [(6, .int r276), (0, .ref b), (1, .ref (fw_ad E 0 10)), (2, .ref (fw_ad E 0 18)), (3, .ref (fw_ad E 0 27)), (4, .ref (fw_ad E 0 28)), (5, .int x5)]) hx hb dL_law_2276 hl (by decide) rfl (fun ls hl => ?_)
  refine lv_aload_n hx hb dL_law_2278 rfl (lv_at hl 3 rfl) ?_
  obtain ⟨μ277, r277, hc277, h⟩ := fw_b2_e h
  refine fw_ret (va_runV (As := []) (rest := []) ⟨hx, hb, hml, hown, hU⟩ (k_X10_lostShare l hE hc277) (cwV 0 hU (fw_gV m_1473 m_1474 m_1475 m_9 m_1476) rfl rfl rfl (by decide +kernel) ⟨(Nat.le_of_ble_eq_true rfl), (Nat.le_of_ble_eq_true rfl)⟩) ⟨fw_blind, fw_recv hK hP (fw_V0 (f := 18) (by decide) (by decide)) rfl rfl, fun U hU9 hW9 => ⟨rfl, fw_pre hK hP hSt hS U hU9 hW9⟩⟩ rfl rfl hl.1 rfl (lv_room (Nat.le_of_ble_eq_true rfl)) dL_law_2279 ⟨by show _ ≤ 603072; omega, by show _ ≤ 7182442; omega⟩) hS (fun H locs hP hS => ?_)
  refine lv_fstore (lv' := [(7, .float r277), (6, .int r276), (0, .ref b), (1, .ref (fw_ad E 0 10)), (2, .ref (fw_ad E 0 18)), (3, .ref (fw_ad E 0 27)), (4, .ref (fw_ad E 0 28)), (5, .int x5)]) hx hb dL_law_2282 hl (by decide) rfl (fun ls hl => ?_)
  refine lv_aload_n hx hb dL_law_2284 rfl (lv_at hl 4 rfl) ?_
  obtain ⟨r278, hc278, h⟩ := fw_b1_e h
  refine fw_ret (va_runV (As := []) (rest := []) ⟨hx, hb, hml, hown, hU⟩ (k_X10_thrown l hE hc278) (cwV 0 hU (fw_gV m_1178 m_1179 m_1180 m_9 m_1181) rfl rfl rfl (by decide +kernel) ⟨(Nat.le_of_ble_eq_true rfl), (Nat.le_of_ble_eq_true rfl)⟩) ⟨fw_blind, fw_recv hK hP (fw_V0 (f := 18) (by decide) (by decide)) rfl rfl, fun U hU9 hW9 => ⟨rfl, fw_pre hK hP hSt hS U hU9 hW9⟩⟩ rfl rfl hl.1 rfl (lv_room (Nat.le_of_ble_eq_true rfl)) dL_law_2285 ⟨by show _ ≤ 603072; omega, by show _ ≤ 7182442; omega⟩) hS (fun H locs hP hS => ?_)
  refine lv_iload hx hb dL_law_2288 (lv_at hl 1 rfl) ?_
  refine lv_icmp_eq (tgt := 2295) hx hb dL_law_2290 (by decide) (fun c279 => ?_) (fun c279 => ?_)
  · rw [if_pos c279] at h
    refine lv_iload hx hb dL_law_2295 (lv_at hl 1 rfl) ?_
    refine lv_if_ne (tgt := 2333) hx hb dL_law_2297 (by decide) (fun c280 => ?_) (fun c280 => ?_)
    · rw [if_neg c280] at h
      refine lv_goto (tgt := 2765) hx hb dL_law_2333 (by decide) ?_
      refine lv_iinc (v := (x5 + (5 : Int32))) (lv' := [(5, .int (x5 + (5 : Int32))), (7, .float r277), (6, .int r276), (0, .ref b), (1, .ref (fw_ad E 0 10)), (2, .ref (fw_ad E 0 18)), (3, .ref (fw_ad E 0 27)), (4, .ref (fw_ad E 0 28))]) hx hb dL_law_2765 hl (k := 7) rfl rfl (by decide) rfl (fun ls hl => ?_)
      refine lv_goto (tgt := 28) hx hb dL_law_2768 (by decide) ?_
      exact ih _ _ _ _ H locs ls _ _ h hP hS (lv_sub hl [3, 4, 5, 6, 7, 0] rfl) (by omega) (by omega)
    · rw [if_pos c280] at h
      refine lv_aload hx hb dL_law_2300 (lv_at hl 6 rfl) ?_
      refine lv_iconst (v := (0 : Int32)) hx hb dL_law_2302 (by decide) ?_
      refine va_dald (D := fw_D E) hx hb hK (fw_at hP (fw_V0 (f := 28) (by decide) (by decide))) 0 7 rfl rfl (fw_in_e (n := 1) (by decide)) dL_law_2303 ?_
      refine lv_fload hx hb dL_law_2304 (lv_at hl 0 rfl) ?_
      obtain ⟨g281, h⟩ := fw_g_e h
      refine lv_f2d hx hb dL_law_2306 (fw_f64_e g281) ?_
      refine lv_dcmp (op := CmpOp.l) hx hb dL_law_2307 ?_
      refine lv_if_eq (tgt := 2333) hx hb dL_law_2308 (by decide) (fun c282 => ?_) (fun c282 => ?_)
      · rw [if_pos c282] at h
        refine lv_goto (tgt := 2765) hx hb dL_law_2333 (by decide) ?_
        refine lv_iinc (v := (x5 + (5 : Int32))) (lv' := [(5, .int (x5 + (5 : Int32))), (7, .float r277), (6, .int r276), (0, .ref b), (1, .ref (fw_ad E 0 10)), (2, .ref (fw_ad E 0 18)), (3, .ref (fw_ad E 0 27)), (4, .ref (fw_ad E 0 28))]) hx hb dL_law_2765 hl (k := 7) rfl rfl (by decide) rfl (fun ls hl => ?_)
        refine lv_goto (tgt := 28) hx hb dL_law_2768 (by decide) ?_
        exact ih _ _ _ _ H locs ls _ _ h hP hS (lv_sub hl [3, 4, 5, 6, 7, 0] rfl) (by omega) (by omega)
      · rw [if_neg c282] at h
        refine lv_aload hx hb dL_law_2311 (lv_at hl 6 rfl) ?_
        refine lv_iconst (v := (0 : Int32)) hx hb dL_law_2313 (by decide) ?_
        refine va_dald (D := fw_D E) hx hb hK (fw_at hP (fw_V0 (f := 28) (by decide) (by decide))) 0 7 rfl rfl (fw_in_e (n := 1) (by decide)) dL_law_2314 ?_
        refine lv_aload hx hb dL_law_2315 (lv_at hl 6 rfl) ?_
        refine lv_iconst (v := (0 : Int32)) hx hb dL_law_2317 (by decide) ?_
        refine va_dald (D := fw_D E) hx hb hK (fw_at hP (fw_V0 (f := 28) (by decide) (by decide))) 0 7 rfl rfl (fw_in_e (n := 1) (by decide)) dL_law_2318 ?_
        refine lv_dcmp (op := CmpOp.l) hx hb dL_law_2319 ?_
        refine lv_if_eq (tgt := 2331) hx hb dL_law_2320 (by decide) (fun c283 => ?_) (fun c283 => ?_)
        · rw [if_pos c283] at h
          refine lv_iconst (v := (0 : Int32)) hx hb dL_law_2331 (by decide) ?_
          cases h
        · rw [if_neg c283] at h
          refine lv_fload hx hb dL_law_2323 (lv_at hl 0 rfl) ?_
          refine lv_fload hx hb dL_law_2325 (lv_at hl 0 rfl) ?_
          refine lv_fcmp (op := CmpOp.l) hx hb dL_law_2327 ?_
          refine lv_if_ne (tgt := 2333) hx hb dL_law_2328 (by decide) (fun c284 => ?_) (fun c284 => ?_)
          · rw [if_neg c284] at h
            refine lv_goto (tgt := 2765) hx hb dL_law_2333 (by decide) ?_
            refine lv_iinc (v := (x5 + (5 : Int32))) (lv' := [(5, .int (x5 + (5 : Int32))), (7, .float r277), (6, .int r276), (0, .ref b), (1, .ref (fw_ad E 0 10)), (2, .ref (fw_ad E 0 18)), (3, .ref (fw_ad E 0 27)), (4, .ref (fw_ad E 0 28))]) hx hb dL_law_2765 hl (k := 7) rfl rfl (by decide) rfl (fun ls hl => ?_)
            refine lv_goto (tgt := 28) hx hb dL_law_2768 (by decide) ?_
            exact ih _ _ _ _ H locs ls _ _ h hP hS (lv_sub hl [3, 4, 5, 6, 7, 0] rfl) (by omega) (by omega)
          · rw [if_pos c284] at h
            refine lv_iconst (v := (0 : Int32)) hx hb dL_law_2331 (by decide) ?_
            cases h
  · rw [if_neg c279] at h
    refine lv_iconst (v := (0 : Int32)) hx hb dL_law_2293 (by decide) ?_
    cases h
set_option maxHeartbeats 4000000 in
set_option maxRecDepth 100000 in
theorem law_C2336 {p : Program} {l : Launch} {e : Env} {s : State} {m : MethodId} {below : List Frame} {meth : Method} {c : Code} {b L : Nat} {xs : Nat → Int32} {E : fw_E} {Q : State → Prop} (C0 : lc_At p l s m meth c b L xs E) (n : Nat) (K : fw_M → Int64 → UInt64 → Int32 → Option Unit) (ih : ∀ (μ : fw_M) (o : Int64) (d : UInt64) (x5 : Int32) (H : Heap) (locs : List Loc) (ls : Array Slot) (cells slots : Nat), K μ o d x5 = some () → fw_P E o d μ H → va_S (fw_A E) s.heap H locs → lv_has ls 9 [(0, .ref b), (1, .ref (fw_ad E 0 10)), (2, .ref (fw_ad E 0 18)), (3, .ref (fw_ad E 0 27)), (4, .ref (fw_ad E 0 28)), (5, .int x5)] → cells + 4 * n ≤ 603072 → slots + 24 * n ≤ 7182442 → W p l e room_1 s m #[Value.ref b] below meth c H locs cells slots Q (F0 m 28 ls [])) : ∀ (μ : fw_M) (o : Int64) (d : UInt64) (x5 : Int32) (H : Heap) (locs : List Loc) (ls : Array Slot) (cells slots : Nat), f_law_C2336 K xs L μ o d x5 = some () → fw_P E o d μ H → va_S (fw_A E) s.heap H locs → lv_has ls 9 [(0, .ref b), (1, .ref (fw_ad E 0 10)), (2, .ref (fw_ad E 0 18)), (3, .ref (fw_ad E 0 27)), (4, .ref (fw_ad E 0 28)), (5, .int x5)] → cells + 4 * (n + 1) ≤ 603072 → slots + 24 * (n + 1) ≤ 7182442 → W p l e room_1 s m #[Value.ref b] below meth c H locs cells slots Q (F0 m 2336 ls []) := by
  obtain ⟨hx, hb, hml, hown, hU, hK, hSt, hN2, hE, hst, hX, hbl, hbA, hz⟩ := C0
  intro μ o d x5 H locs ls cells slots h hP hS hl hc1 hc2
  unfold f_law_C2336 at h
  refine lv_aload_n hx hb dL_law_2336 rfl (lv_at hl 1 rfl) ?_
  obtain ⟨μ285, r285, hc285, h⟩ := fw_b2_e h
  refine fw_ret (va_runV (As := []) (rest := []) ⟨hx, hb, hml, hown, hU⟩ (k_X9_isConsistent l hE hc285) (cwV 0 hU (fw_gV m_237 m_238 m_239 m_1 m_240) rfl rfl rfl (by decide +kernel) ⟨(Nat.le_of_ble_eq_true rfl), (Nat.le_of_ble_eq_true rfl)⟩) ⟨fw_blind, fw_recv hK hP (fw_V0 (f := 10) (by decide) (by decide)) rfl rfl, fun U hU9 hW9 => ⟨rfl, fw_pre hK hP hSt hS U hU9 hW9⟩⟩ rfl rfl hl.1 rfl (lv_room (Nat.le_of_ble_eq_true rfl)) dL_law_2337 ⟨by show _ ≤ 603072; omega, by show _ ≤ 7182442; omega⟩) hS (fun H locs hP hS => ?_)
  refine lv_aload_n hx hb dL_law_2340 rfl (lv_at hl 2 rfl) ?_
  obtain ⟨μ286, r286, hc286, h⟩ := fw_b2_e h
  refine fw_ret (va_runV (As := []) (rest := [.int r285]) ⟨hx, hb, hml, hown, hU⟩ (k_X10_isConsistent l hE hc286) (cwV 0 hU (fw_gV m_1477 m_1478 m_1479 m_9 m_1480) rfl rfl rfl (by decide +kernel) ⟨(Nat.le_of_ble_eq_true rfl), (Nat.le_of_ble_eq_true rfl)⟩) ⟨fw_blind, fw_recv hK hP (fw_V0 (f := 18) (by decide) (by decide)) rfl rfl, fun U hU9 hW9 => ⟨rfl, fw_pre hK hP hSt hS U hU9 hW9⟩⟩ rfl rfl hl.1 rfl (lv_room (Nat.le_of_ble_eq_true rfl)) dL_law_2341 ⟨by show _ ≤ 603072; omega, by show _ ≤ 7182442; omega⟩) hS (fun H locs hP hS => ?_)
  refine lv_icmp_eq (tgt := 2765) hx hb dL_law_2344 (by decide) (fun c287 => ?_) (fun c287 => ?_)
  · rw [if_pos c287] at h
    refine lv_iinc (v := (x5 + (5 : Int32))) (lv' := [(5, .int (x5 + (5 : Int32))), (0, .ref b), (1, .ref (fw_ad E 0 10)), (2, .ref (fw_ad E 0 18)), (3, .ref (fw_ad E 0 27)), (4, .ref (fw_ad E 0 28))]) hx hb dL_law_2765 hl (k := 5) rfl rfl (by decide) rfl (fun ls hl => ?_)
    refine lv_goto (tgt := 28) hx hb dL_law_2768 (by decide) ?_
    exact ih _ _ _ _ H locs ls _ _ h hP hS (lv_sub hl [1, 2, 3, 4, 5, 0] rfl) (by omega) (by omega)
  · rw [if_neg c287] at h
    refine lv_iconst (v := (0 : Int32)) hx hb dL_law_2347 (by decide) ?_
    cases h
set_option maxHeartbeats 4000000 in
set_option maxRecDepth 100000 in
theorem law_C2349 {p : Program} {l : Launch} {e : Env} {s : State} {m : MethodId} {below : List Frame} {meth : Method} {c : Code} {b L : Nat} {xs : Nat → Int32} {E : fw_E} {Q : State → Prop} (C0 : lc_At p l s m meth c b L xs E) (n : Nat) (K : fw_M → Int64 → UInt64 → Int32 → Option Unit) (ih : ∀ (μ : fw_M) (o : Int64) (d : UInt64) (x5 : Int32) (H : Heap) (locs : List Loc) (ls : Array Slot) (cells slots : Nat), K μ o d x5 = some () → fw_P E o d μ H → va_S (fw_A E) s.heap H locs → lv_has ls 9 [(0, .ref b), (1, .ref (fw_ad E 0 10)), (2, .ref (fw_ad E 0 18)), (3, .ref (fw_ad E 0 27)), (4, .ref (fw_ad E 0 28)), (5, .int x5)] → cells + 4 * n ≤ 603072 → slots + 24 * n ≤ 7182442 → W p l e room_1 s m #[Value.ref b] below meth c H locs cells slots Q (F0 m 28 ls [])) : ∀ (μ : fw_M) (o : Int64) (d : UInt64) (x5 : Int32) (H : Heap) (locs : List Loc) (ls : Array Slot) (cells slots : Nat), f_law_C2349 K xs L μ o d x5 = some () → fw_P E o d μ H → va_S (fw_A E) s.heap H locs → lv_has ls 9 [(0, .ref b), (1, .ref (fw_ad E 0 10)), (2, .ref (fw_ad E 0 18)), (3, .ref (fw_ad E 0 27)), (4, .ref (fw_ad E 0 28)), (5, .int x5)] → cells + 4 * (n + 1) ≤ 603072 → slots + 24 * (n + 1) ≤ 7182442 → W p l e room_1 s m #[Value.ref b] below meth c H locs cells slots Q (F0 m 2349 ls []) := by
  obtain ⟨hx, hb, hml, hown, hU, hK, hSt, hN2, hE, hst, hX, hbl, hbA, hz⟩ := C0
  intro μ o d x5 H locs ls cells slots h hP hS hl hc1 hc2
  unfold f_law_C2349 at h
  refine lv_aload_n hx hb dL_law_2349 rfl (lv_at hl 1 rfl) ?_
  refine lv_aload_n hx hb dL_law_2350 rfl (lv_at hl 0 rfl) ?_
  refine lv_iload hx hb dL_law_2351 (lv_at hl 5 rfl) ?_
  refine lv_iconst (v := (1 : Int32)) hx hb dL_law_2353 (by decide) ?_
  refine lv_iadd hx hb dL_law_2354 ?_
  obtain ⟨g288, h⟩ := fw_g_e h
  refine va_sld hx hb hX hbl hbA hS (fw_in_e g288) dL_law_2355 ?_
  refine lv_i2c (v := ((xs (x5 + (1 : Int32)).toNatClampNeg).toUInt32 % 65536).toInt32) hx hb dL_law_2356 rfl ?_
  refine lv_aload_n hx hb dL_law_2357 rfl (lv_at hl 3 rfl) ?_
  obtain ⟨μ289, o289, d289, r289, hc289, h⟩ := fw_b4_e h
  refine fw_retL (vx_runSW (As := [.ref (fw_ad E 0 10), .int ((xs (x5 + (1 : Int32)).toNatClampNeg).toUInt32 % 65536).toInt32, .ref (fw_ad E 0 27)]) (rest := []) ⟨hx, hb, hml, hown, hU⟩ (k_L_feed l hst hE (((xs (x5 + (1 : Int32)).toNatClampNeg).toUInt32 % 65536).toInt32) hc289) (vx_cwSW 3 hU (fw_gSW m_910 m_911 m_0 m_912) rfl rfl rfl (by decide +kernel) ⟨(Nat.le_of_ble_eq_true rfl), (Nat.le_of_ble_eq_true rfl)⟩) ⟨fw_blind2, fun U hU9 hW9 => ⟨rfl, fw_pre hK hP hSt hS U hU9 hW9, fw_S2_go hN2 hW9⟩⟩ rfl rfl hl.1 rfl (lv_room (Nat.le_of_ble_eq_true rfl)) dL_law_2358 ⟨by show _ ≤ 603072; omega, by show _ ≤ 7182442; omega⟩) hS (fun H locs hP hS => ?_)
  refine lv_istore (lv' := [(6, .int r289), (0, .ref b), (1, .ref (fw_ad E 0 10)), (2, .ref (fw_ad E 0 18)), (3, .ref (fw_ad E 0 27)), (4, .ref (fw_ad E 0 28)), (5, .int x5)]) hx hb dL_law_2361 hl (by decide) rfl (fun ls hl => ?_)
  refine lv_aload_n hx hb dL_law_2363 rfl (lv_at hl 3 rfl) ?_
  refine lv_aload_n hx hb dL_law_2364 rfl (lv_at hl 1 rfl) ?_
  refine lv_iload hx hb dL_law_2365 (lv_at hl 6 rfl) ?_
  refine lv_iconst (v := (1 : Int32)) hx hb dL_law_2367 (by decide) ?_
  refine lv_iadd hx hb dL_law_2368 ?_
  refine va_sld hx hb hX hbl hbA hS (fw_in_e g288) dL_law_2369 ?_
  refine lv_i2c (v := ((xs (x5 + (1 : Int32)).toNatClampNeg).toUInt32 % 65536).toInt32) hx hb dL_law_2370 rfl ?_
  obtain ⟨μ290, r290, hc290, h⟩ := fw_b2_e h
  refine fw_ret (va_runV (As := [.int ((xs (x5 + (1 : Int32)).toNatClampNeg).toUInt32 % 65536).toInt32]) (rest := []) ⟨hx, hb, hml, hown, hU⟩ (k_X10_feed l hE (((xs (x5 + (1 : Int32)).toNatClampNeg).toUInt32 % 65536).toInt32) hc290) (cwV 1 hU (fw_gV m_1481 m_1482 m_1483 m_9 m_1484) rfl rfl rfl (by decide +kernel) ⟨(Nat.le_of_ble_eq_true rfl), (Nat.le_of_ble_eq_true rfl)⟩) ⟨fw_blind, fw_recv hK hP (fw_V0 (f := 18) (by decide) (by decide)) rfl rfl, fun U hU9 hW9 => ⟨rfl, fw_pre hK hP hSt hS U hU9 hW9⟩⟩ rfl rfl hl.1 rfl (lv_room (Nat.le_of_ble_eq_true rfl)) dL_law_2371 ⟨by show _ ≤ 603072; omega, by show _ ≤ 7182442; omega⟩) hS (fun H locs hP hS => ?_)
  refine lv_istore (lv' := [(7, .int r290), (6, .int r289), (0, .ref b), (1, .ref (fw_ad E 0 10)), (2, .ref (fw_ad E 0 18)), (3, .ref (fw_ad E 0 27)), (4, .ref (fw_ad E 0 28)), (5, .int x5)]) hx hb dL_law_2374 hl (by decide) rfl (fun ls hl => ?_)
  refine lv_aload_n hx hb dL_law_2376 rfl (lv_at hl 4 rfl) ?_
  obtain ⟨r291, hc291, h⟩ := fw_b1_e h
  refine fw_ret (va_runV (As := []) (rest := []) ⟨hx, hb, hml, hown, hU⟩ (k_X10_thrown l hE hc291) (cwV 0 hU (fw_gV m_1178 m_1179 m_1180 m_9 m_1181) rfl rfl rfl (by decide +kernel) ⟨(Nat.le_of_ble_eq_true rfl), (Nat.le_of_ble_eq_true rfl)⟩) ⟨fw_blind, fw_recv hK hP (fw_V0 (f := 18) (by decide) (by decide)) rfl rfl, fun U hU9 hW9 => ⟨rfl, fw_pre hK hP hSt hS U hU9 hW9⟩⟩ rfl rfl hl.1 rfl (lv_room (Nat.le_of_ble_eq_true rfl)) dL_law_2377 ⟨by show _ ≤ 603072; omega, by show _ ≤ 7182442; omega⟩) hS (fun H locs hP hS => ?_)
  refine lv_iload hx hb dL_law_2380 (lv_at hl 1 rfl) ?_
  refine lv_icmp_eq (tgt := 2387) hx hb dL_law_2382 (by decide) (fun c292 => ?_) (fun c292 => ?_)
  · rw [if_pos c292] at h
    refine lv_iload hx hb dL_law_2387 (lv_at hl 1 rfl) ?_
    refine lv_if_ne (tgt := 2404) hx hb dL_law_2389 (by decide) (fun c293 => ?_) (fun c293 => ?_)
    · rw [if_neg c293] at h
      refine lv_goto (tgt := 2765) hx hb dL_law_2404 (by decide) ?_
      refine lv_iinc (v := (x5 + (5 : Int32))) (lv' := [(5, .int (x5 + (5 : Int32))), (7, .int r290), (6, .int r289), (0, .ref b), (1, .ref (fw_ad E 0 10)), (2, .ref (fw_ad E 0 18)), (3, .ref (fw_ad E 0 27)), (4, .ref (fw_ad E 0 28))]) hx hb dL_law_2765 hl (k := 7) rfl rfl (by decide) rfl (fun ls hl => ?_)
      refine lv_goto (tgt := 28) hx hb dL_law_2768 (by decide) ?_
      exact ih _ _ _ _ H locs ls _ _ h hP hS (lv_sub hl [3, 4, 5, 6, 7, 0] rfl) (by omega) (by omega)
    · rw [if_pos c293] at h
      refine lv_aload_n hx hb dL_law_2392 rfl (lv_at hl 5 rfl) ?_
      refine lv_iconst (v := (0 : Int32)) hx hb dL_law_2393 (by decide) ?_
      refine va_lald (D := fw_D E) hx hb hK (fw_at hP (fw_V0 (f := 27) (by decide) (by decide))) 0 6 rfl rfl (fw_in_e (n := 1) (by decide)) dL_law_2394 ?_
      refine lv_iload hx hb dL_law_2395 (lv_at hl 0 rfl) ?_
      refine lv_i2l (v := r290.toInt64) hx hb dL_law_2397 rfl ?_
      refine W.lcmp hx hb dL_law_2398 ?_
      refine lv_if_eq (tgt := 2404) hx hb dL_law_2399 (by decide) (fun c294 => ?_) (fun c294 => ?_)
      · rw [if_pos c294] at h
        refine lv_goto (tgt := 2765) hx hb dL_law_2404 (by decide) ?_
        refine lv_iinc (v := (x5 + (5 : Int32))) (lv' := [(5, .int (x5 + (5 : Int32))), (7, .int r290), (6, .int r289), (0, .ref b), (1, .ref (fw_ad E 0 10)), (2, .ref (fw_ad E 0 18)), (3, .ref (fw_ad E 0 27)), (4, .ref (fw_ad E 0 28))]) hx hb dL_law_2765 hl (k := 7) rfl rfl (by decide) rfl (fun ls hl => ?_)
        refine lv_goto (tgt := 28) hx hb dL_law_2768 (by decide) ?_
        exact ih _ _ _ _ H locs ls _ _ h hP hS (lv_sub hl [3, 4, 5, 6, 7, 0] rfl) (by omega) (by omega)
      · rw [if_neg c294] at h
        refine lv_iconst (v := (0 : Int32)) hx hb dL_law_2402 (by decide) ?_
        cases h
  · rw [if_neg c292] at h
    refine lv_iconst (v := (0 : Int32)) hx hb dL_law_2385 (by decide) ?_
    cases h
set_option maxHeartbeats 4000000 in
set_option maxRecDepth 100000 in
theorem law_C2407 {p : Program} {l : Launch} {e : Env} {s : State} {m : MethodId} {below : List Frame} {meth : Method} {c : Code} {b L : Nat} {xs : Nat → Int32} {E : fw_E} {Q : State → Prop} (C0 : lc_At p l s m meth c b L xs E) (n : Nat) (K : fw_M → Int64 → UInt64 → Int32 → Option Unit) (ih : ∀ (μ : fw_M) (o : Int64) (d : UInt64) (x5 : Int32) (H : Heap) (locs : List Loc) (ls : Array Slot) (cells slots : Nat), K μ o d x5 = some () → fw_P E o d μ H → va_S (fw_A E) s.heap H locs → lv_has ls 9 [(0, .ref b), (1, .ref (fw_ad E 0 10)), (2, .ref (fw_ad E 0 18)), (3, .ref (fw_ad E 0 27)), (4, .ref (fw_ad E 0 28)), (5, .int x5)] → cells + 4 * n ≤ 603072 → slots + 24 * n ≤ 7182442 → W p l e room_1 s m #[Value.ref b] below meth c H locs cells slots Q (F0 m 28 ls [])) : ∀ (μ : fw_M) (o : Int64) (d : UInt64) (x5 : Int32) (H : Heap) (locs : List Loc) (ls : Array Slot) (cells slots : Nat), f_law_C2407 K xs L μ o d x5 = some () → fw_P E o d μ H → va_S (fw_A E) s.heap H locs → lv_has ls 9 [(0, .ref b), (1, .ref (fw_ad E 0 10)), (2, .ref (fw_ad E 0 18)), (3, .ref (fw_ad E 0 27)), (4, .ref (fw_ad E 0 28)), (5, .int x5)] → cells + 4 * (n + 1) ≤ 603072 → slots + 24 * (n + 1) ≤ 7182442 → W p l e room_1 s m #[Value.ref b] below meth c H locs cells slots Q (F0 m 2407 ls []) := by
  obtain ⟨hx, hb, hml, hown, hU, hK, hSt, hN2, hE, hst, hX, hbl, hbA, hz⟩ := C0
  intro μ o d x5 H locs ls cells slots h hP hS hl hc1 hc2
  unfold f_law_C2407 at h
  refine lv_aload_n hx hb dL_law_2407 rfl (lv_at hl 1 rfl) ?_
  refine lv_aload_n hx hb dL_law_2408 rfl (lv_at hl 3 rfl) ?_
  obtain ⟨μ295, o295, d295, r295, hc295, h⟩ := fw_b4_e h
  refine fw_retL (vx_runSW (As := [.ref (fw_ad E 0 10), .ref (fw_ad E 0 27)]) (rest := []) ⟨hx, hb, hml, hown, hU⟩ (k_L_runCommands l hst hE  hc295) (vx_cwSW 2 hU (fw_gSW m_922 m_923 m_0 m_924) rfl rfl rfl (by decide +kernel) ⟨(Nat.le_of_ble_eq_true rfl), (Nat.le_of_ble_eq_true rfl)⟩) ⟨fw_blind2, fun U hU9 hW9 => ⟨rfl, fw_pre hK hP hSt hS U hU9 hW9, fw_S2_go hN2 hW9⟩⟩ rfl rfl hl.1 rfl (lv_room (Nat.le_of_ble_eq_true rfl)) dL_law_2409 ⟨by show _ ≤ 603072; omega, by show _ ≤ 7182442; omega⟩) hS (fun H locs hP hS => ?_)
  refine lv_istore (lv' := [(6, .int r295), (0, .ref b), (1, .ref (fw_ad E 0 10)), (2, .ref (fw_ad E 0 18)), (3, .ref (fw_ad E 0 27)), (4, .ref (fw_ad E 0 28)), (5, .int x5)]) hx hb dL_law_2412 hl (by decide) rfl (fun ls hl => ?_)
  refine lv_aload_n hx hb dL_law_2414 rfl (lv_at hl 3 rfl) ?_
  obtain ⟨μ296, r296, hc296, h⟩ := fw_b2_e h
  refine fw_ret (va_runV (As := []) (rest := []) ⟨hx, hb, hml, hown, hU⟩ (k_X10_runCommands l hE hc296) (cwV 0 hU (fw_gV m_1485 m_1486 m_1487 m_9 m_1488) rfl rfl rfl (by decide +kernel) ⟨(Nat.le_of_ble_eq_true rfl), (Nat.le_of_ble_eq_true rfl)⟩) ⟨fw_blind, fw_recv hK hP (fw_V0 (f := 18) (by decide) (by decide)) rfl rfl, fun U hU9 hW9 => ⟨rfl, fw_pre hK hP hSt hS U hU9 hW9⟩⟩ rfl rfl hl.1 rfl (lv_room (Nat.le_of_ble_eq_true rfl)) dL_law_2415 ⟨by show _ ≤ 603072; omega, by show _ ≤ 7182442; omega⟩) hS (fun H locs hP hS => ?_)
  refine lv_istore (lv' := [(7, .int r296), (6, .int r295), (0, .ref b), (1, .ref (fw_ad E 0 10)), (2, .ref (fw_ad E 0 18)), (3, .ref (fw_ad E 0 27)), (4, .ref (fw_ad E 0 28)), (5, .int x5)]) hx hb dL_law_2418 hl (by decide) rfl (fun ls hl => ?_)
  refine lv_aload_n hx hb dL_law_2420 rfl (lv_at hl 4 rfl) ?_
  obtain ⟨r297, hc297, h⟩ := fw_b1_e h
  refine fw_ret (va_runV (As := []) (rest := []) ⟨hx, hb, hml, hown, hU⟩ (k_X10_thrown l hE hc297) (cwV 0 hU (fw_gV m_1178 m_1179 m_1180 m_9 m_1181) rfl rfl rfl (by decide +kernel) ⟨(Nat.le_of_ble_eq_true rfl), (Nat.le_of_ble_eq_true rfl)⟩) ⟨fw_blind, fw_recv hK hP (fw_V0 (f := 18) (by decide) (by decide)) rfl rfl, fun U hU9 hW9 => ⟨rfl, fw_pre hK hP hSt hS U hU9 hW9⟩⟩ rfl rfl hl.1 rfl (lv_room (Nat.le_of_ble_eq_true rfl)) dL_law_2421 ⟨by show _ ≤ 603072; omega, by show _ ≤ 7182442; omega⟩) hS (fun H locs hP hS => ?_)
  refine lv_iload hx hb dL_law_2424 (lv_at hl 1 rfl) ?_
  refine lv_icmp_eq (tgt := 2431) hx hb dL_law_2426 (by decide) (fun c298 => ?_) (fun c298 => ?_)
  · rw [if_pos c298] at h
    refine lv_iload hx hb dL_law_2431 (lv_at hl 1 rfl) ?_
    refine lv_if_ne (tgt := 2448) hx hb dL_law_2433 (by decide) (fun c299 => ?_) (fun c299 => ?_)
    · rw [if_neg c299] at h
      refine lv_goto (tgt := 2765) hx hb dL_law_2448 (by decide) ?_
      refine lv_iinc (v := (x5 + (5 : Int32))) (lv' := [(5, .int (x5 + (5 : Int32))), (7, .int r296), (6, .int r295), (0, .ref b), (1, .ref (fw_ad E 0 10)), (2, .ref (fw_ad E 0 18)), (3, .ref (fw_ad E 0 27)), (4, .ref (fw_ad E 0 28))]) hx hb dL_law_2765 hl (k := 7) rfl rfl (by decide) rfl (fun ls hl => ?_)
      refine lv_goto (tgt := 28) hx hb dL_law_2768 (by decide) ?_
      exact ih _ _ _ _ H locs ls _ _ h hP hS (lv_sub hl [3, 4, 5, 6, 7, 0] rfl) (by omega) (by omega)
    · rw [if_pos c299] at h
      refine lv_aload_n hx hb dL_law_2436 rfl (lv_at hl 5 rfl) ?_
      refine lv_iconst (v := (0 : Int32)) hx hb dL_law_2437 (by decide) ?_
      refine va_lald (D := fw_D E) hx hb hK (fw_at hP (fw_V0 (f := 27) (by decide) (by decide))) 0 6 rfl rfl (fw_in_e (n := 1) (by decide)) dL_law_2438 ?_
      refine lv_iload hx hb dL_law_2439 (lv_at hl 0 rfl) ?_
      refine lv_i2l (v := r296.toInt64) hx hb dL_law_2441 rfl ?_
      refine W.lcmp hx hb dL_law_2442 ?_
      refine lv_if_eq (tgt := 2448) hx hb dL_law_2443 (by decide) (fun c300 => ?_) (fun c300 => ?_)
      · rw [if_pos c300] at h
        refine lv_goto (tgt := 2765) hx hb dL_law_2448 (by decide) ?_
        refine lv_iinc (v := (x5 + (5 : Int32))) (lv' := [(5, .int (x5 + (5 : Int32))), (7, .int r296), (6, .int r295), (0, .ref b), (1, .ref (fw_ad E 0 10)), (2, .ref (fw_ad E 0 18)), (3, .ref (fw_ad E 0 27)), (4, .ref (fw_ad E 0 28))]) hx hb dL_law_2765 hl (k := 7) rfl rfl (by decide) rfl (fun ls hl => ?_)
        refine lv_goto (tgt := 28) hx hb dL_law_2768 (by decide) ?_
        exact ih _ _ _ _ H locs ls _ _ h hP hS (lv_sub hl [3, 4, 5, 6, 7, 0] rfl) (by omega) (by omega)
      · rw [if_neg c300] at h
        refine lv_iconst (v := (0 : Int32)) hx hb dL_law_2446 (by decide) ?_
        cases h
  · rw [if_neg c298] at h
    refine lv_iconst (v := (0 : Int32)) hx hb dL_law_2429 (by decide) ?_
    cases h
set_option maxHeartbeats 4000000 in
set_option maxRecDepth 100000 in
theorem law_C2451 {p : Program} {l : Launch} {e : Env} {s : State} {m : MethodId} {below : List Frame} {meth : Method} {c : Code} {b L : Nat} {xs : Nat → Int32} {E : fw_E} {Q : State → Prop} (C0 : lc_At p l s m meth c b L xs E) (n : Nat) (K : fw_M → Int64 → UInt64 → Int32 → Option Unit) (ih : ∀ (μ : fw_M) (o : Int64) (d : UInt64) (x5 : Int32) (H : Heap) (locs : List Loc) (ls : Array Slot) (cells slots : Nat), K μ o d x5 = some () → fw_P E o d μ H → va_S (fw_A E) s.heap H locs → lv_has ls 9 [(0, .ref b), (1, .ref (fw_ad E 0 10)), (2, .ref (fw_ad E 0 18)), (3, .ref (fw_ad E 0 27)), (4, .ref (fw_ad E 0 28)), (5, .int x5)] → cells + 4 * n ≤ 603072 → slots + 24 * n ≤ 7182442 → W p l e room_1 s m #[Value.ref b] below meth c H locs cells slots Q (F0 m 28 ls [])) : ∀ (μ : fw_M) (o : Int64) (d : UInt64) (x5 : Int32) (H : Heap) (locs : List Loc) (ls : Array Slot) (cells slots : Nat), f_law_C2451 K xs L μ o d x5 = some () → fw_P E o d μ H → va_S (fw_A E) s.heap H locs → lv_has ls 9 [(0, .ref b), (1, .ref (fw_ad E 0 10)), (2, .ref (fw_ad E 0 18)), (3, .ref (fw_ad E 0 27)), (4, .ref (fw_ad E 0 28)), (5, .int x5)] → cells + 4 * (n + 1) ≤ 603072 → slots + 24 * (n + 1) ≤ 7182442 → W p l e room_1 s m #[Value.ref b] below meth c H locs cells slots Q (F0 m 2451 ls []) := by
  obtain ⟨hx, hb, hml, hown, hU, hK, hSt, hN2, hE, hst, hX, hbl, hbA, hz⟩ := C0
  intro μ o d x5 H locs ls cells slots h hP hS hl hc1 hc2
  unfold f_law_C2451 at h
  refine lv_aload_n hx hb dL_law_2451 rfl (lv_at hl 1 rfl) ?_
  refine lv_aload_n hx hb dL_law_2452 rfl (lv_at hl 3 rfl) ?_
  obtain ⟨μ301, o301, d301, r301, hc301, h⟩ := fw_b4_e h
  refine fw_retL (vx_runSW (As := [.ref (fw_ad E 0 10), .ref (fw_ad E 0 27)]) (rest := []) ⟨hx, hb, hml, hown, hU⟩ (k_L_errorPosition l hst hE  hc301) (vx_cwSW 2 hU (fw_gSW m_1043 m_1044 m_0 m_1045) rfl rfl rfl (by decide +kernel) ⟨(Nat.le_of_ble_eq_true rfl), (Nat.le_of_ble_eq_true rfl)⟩) ⟨fw_blind2, fun U hU9 hW9 => ⟨rfl, fw_pre hK hP hSt hS U hU9 hW9, fw_S2_go hN2 hW9⟩⟩ rfl rfl hl.1 rfl (lv_room (Nat.le_of_ble_eq_true rfl)) dL_law_2453 ⟨by show _ ≤ 603072; omega, by show _ ≤ 7182442; omega⟩) hS (fun H locs hP hS => ?_)
  refine lv_istore (lv' := [(6, .int r301), (0, .ref b), (1, .ref (fw_ad E 0 10)), (2, .ref (fw_ad E 0 18)), (3, .ref (fw_ad E 0 27)), (4, .ref (fw_ad E 0 28)), (5, .int x5)]) hx hb dL_law_2456 hl (by decide) rfl (fun ls hl => ?_)
  refine lv_aload_n hx hb dL_law_2458 rfl (lv_at hl 3 rfl) ?_
  obtain ⟨μ302, r302, hc302, h⟩ := fw_b2_e h
  refine fw_ret (va_runV (As := []) (rest := []) ⟨hx, hb, hml, hown, hU⟩ (k_X10_errorPosition l hE hc302) (cwV 0 hU (fw_gV m_1521 m_1522 m_1523 m_9 m_1524) rfl rfl rfl (by decide +kernel) ⟨(Nat.le_of_ble_eq_true rfl), (Nat.le_of_ble_eq_true rfl)⟩) ⟨fw_blind, fw_recv hK hP (fw_V0 (f := 18) (by decide) (by decide)) rfl rfl, fun U hU9 hW9 => ⟨rfl, fw_pre hK hP hSt hS U hU9 hW9⟩⟩ rfl rfl hl.1 rfl (lv_room (Nat.le_of_ble_eq_true rfl)) dL_law_2459 ⟨by show _ ≤ 603072; omega, by show _ ≤ 7182442; omega⟩) hS (fun H locs hP hS => ?_)
  refine lv_istore (lv' := [(7, .int r302), (6, .int r301), (0, .ref b), (1, .ref (fw_ad E 0 10)), (2, .ref (fw_ad E 0 18)), (3, .ref (fw_ad E 0 27)), (4, .ref (fw_ad E 0 28)), (5, .int x5)]) hx hb dL_law_2462 hl (by decide) rfl (fun ls hl => ?_)
  refine lv_aload_n hx hb dL_law_2464 rfl (lv_at hl 4 rfl) ?_
  obtain ⟨r303, hc303, h⟩ := fw_b1_e h
  refine fw_ret (va_runV (As := []) (rest := []) ⟨hx, hb, hml, hown, hU⟩ (k_X10_thrown l hE hc303) (cwV 0 hU (fw_gV m_1178 m_1179 m_1180 m_9 m_1181) rfl rfl rfl (by decide +kernel) ⟨(Nat.le_of_ble_eq_true rfl), (Nat.le_of_ble_eq_true rfl)⟩) ⟨fw_blind, fw_recv hK hP (fw_V0 (f := 18) (by decide) (by decide)) rfl rfl, fun U hU9 hW9 => ⟨rfl, fw_pre hK hP hSt hS U hU9 hW9⟩⟩ rfl rfl hl.1 rfl (lv_room (Nat.le_of_ble_eq_true rfl)) dL_law_2465 ⟨by show _ ≤ 603072; omega, by show _ ≤ 7182442; omega⟩) hS (fun H locs hP hS => ?_)
  refine lv_iload hx hb dL_law_2468 (lv_at hl 1 rfl) ?_
  refine lv_icmp_eq (tgt := 2475) hx hb dL_law_2470 (by decide) (fun c304 => ?_) (fun c304 => ?_)
  · rw [if_pos c304] at h
    refine lv_iload hx hb dL_law_2475 (lv_at hl 1 rfl) ?_
    refine lv_if_ne (tgt := 2492) hx hb dL_law_2477 (by decide) (fun c305 => ?_) (fun c305 => ?_)
    · rw [if_neg c305] at h
      refine lv_goto (tgt := 2765) hx hb dL_law_2492 (by decide) ?_
      refine lv_iinc (v := (x5 + (5 : Int32))) (lv' := [(5, .int (x5 + (5 : Int32))), (7, .int r302), (6, .int r301), (0, .ref b), (1, .ref (fw_ad E 0 10)), (2, .ref (fw_ad E 0 18)), (3, .ref (fw_ad E 0 27)), (4, .ref (fw_ad E 0 28))]) hx hb dL_law_2765 hl (k := 7) rfl rfl (by decide) rfl (fun ls hl => ?_)
      refine lv_goto (tgt := 28) hx hb dL_law_2768 (by decide) ?_
      exact ih _ _ _ _ H locs ls _ _ h hP hS (lv_sub hl [3, 4, 5, 6, 7, 0] rfl) (by omega) (by omega)
    · rw [if_pos c305] at h
      refine lv_aload_n hx hb dL_law_2480 rfl (lv_at hl 5 rfl) ?_
      refine lv_iconst (v := (0 : Int32)) hx hb dL_law_2481 (by decide) ?_
      refine va_lald (D := fw_D E) hx hb hK (fw_at hP (fw_V0 (f := 27) (by decide) (by decide))) 0 6 rfl rfl (fw_in_e (n := 1) (by decide)) dL_law_2482 ?_
      refine lv_iload hx hb dL_law_2483 (lv_at hl 0 rfl) ?_
      refine lv_i2l (v := r302.toInt64) hx hb dL_law_2485 rfl ?_
      refine W.lcmp hx hb dL_law_2486 ?_
      refine lv_if_eq (tgt := 2492) hx hb dL_law_2487 (by decide) (fun c306 => ?_) (fun c306 => ?_)
      · rw [if_pos c306] at h
        refine lv_goto (tgt := 2765) hx hb dL_law_2492 (by decide) ?_
        refine lv_iinc (v := (x5 + (5 : Int32))) (lv' := [(5, .int (x5 + (5 : Int32))), (7, .int r302), (6, .int r301), (0, .ref b), (1, .ref (fw_ad E 0 10)), (2, .ref (fw_ad E 0 18)), (3, .ref (fw_ad E 0 27)), (4, .ref (fw_ad E 0 28))]) hx hb dL_law_2765 hl (k := 7) rfl rfl (by decide) rfl (fun ls hl => ?_)
        refine lv_goto (tgt := 28) hx hb dL_law_2768 (by decide) ?_
        exact ih _ _ _ _ H locs ls _ _ h hP hS (lv_sub hl [3, 4, 5, 6, 7, 0] rfl) (by omega) (by omega)
      · rw [if_neg c306] at h
        refine lv_iconst (v := (0 : Int32)) hx hb dL_law_2490 (by decide) ?_
        cases h
  · rw [if_neg c304] at h
    refine lv_iconst (v := (0 : Int32)) hx hb dL_law_2473 (by decide) ?_
    cases h
set_option maxHeartbeats 4000000 in
set_option maxRecDepth 100000 in
theorem law_C2495 {p : Program} {l : Launch} {e : Env} {s : State} {m : MethodId} {below : List Frame} {meth : Method} {c : Code} {b L : Nat} {xs : Nat → Int32} {E : fw_E} {Q : State → Prop} (C0 : lc_At p l s m meth c b L xs E) (n : Nat) (K : fw_M → Int64 → UInt64 → Int32 → Option Unit) (ih : ∀ (μ : fw_M) (o : Int64) (d : UInt64) (x5 : Int32) (H : Heap) (locs : List Loc) (ls : Array Slot) (cells slots : Nat), K μ o d x5 = some () → fw_P E o d μ H → va_S (fw_A E) s.heap H locs → lv_has ls 9 [(0, .ref b), (1, .ref (fw_ad E 0 10)), (2, .ref (fw_ad E 0 18)), (3, .ref (fw_ad E 0 27)), (4, .ref (fw_ad E 0 28)), (5, .int x5)] → cells + 4 * n ≤ 603072 → slots + 24 * n ≤ 7182442 → W p l e room_1 s m #[Value.ref b] below meth c H locs cells slots Q (F0 m 28 ls [])) : ∀ (μ : fw_M) (o : Int64) (d : UInt64) (x5 : Int32) (H : Heap) (locs : List Loc) (ls : Array Slot) (cells slots : Nat), f_law_C2495 K xs L μ o d x5 = some () → fw_P E o d μ H → va_S (fw_A E) s.heap H locs → lv_has ls 9 [(0, .ref b), (1, .ref (fw_ad E 0 10)), (2, .ref (fw_ad E 0 18)), (3, .ref (fw_ad E 0 27)), (4, .ref (fw_ad E 0 28)), (5, .int x5)] → cells + 4 * (n + 1) ≤ 603072 → slots + 24 * (n + 1) ≤ 7182442 → W p l e room_1 s m #[Value.ref b] below meth c H locs cells slots Q (F0 m 2495 ls []) := by
  obtain ⟨hx, hb, hml, hown, hU, hK, hSt, hN2, hE, hst, hX, hbl, hbA, hz⟩ := C0
  intro μ o d x5 H locs ls cells slots h hP hS hl hc1 hc2
  unfold f_law_C2495 at h
  refine lv_aload_n hx hb dL_law_2495 rfl (lv_at hl 1 rfl) ?_
  refine lv_aload_n hx hb dL_law_2496 rfl (lv_at hl 3 rfl) ?_
  obtain ⟨μ307, o307, d307, r307, hc307, h⟩ := fw_b4_e h
  refine fw_retL (vx_runSW (As := [.ref (fw_ad E 0 10), .ref (fw_ad E 0 27)]) (rest := []) ⟨hx, hb, hml, hown, hU⟩ (k_L_failedCommand l hst hE  hc307) (vx_cwSW 2 hU (fw_gSW m_1051 m_1052 m_0 m_1053) rfl rfl rfl (by decide +kernel) ⟨(Nat.le_of_ble_eq_true rfl), (Nat.le_of_ble_eq_true rfl)⟩) ⟨fw_blind2, fun U hU9 hW9 => ⟨rfl, fw_pre hK hP hSt hS U hU9 hW9, fw_S2_go hN2 hW9⟩⟩ rfl rfl hl.1 rfl (lv_room (Nat.le_of_ble_eq_true rfl)) dL_law_2497 ⟨by show _ ≤ 603072; omega, by show _ ≤ 7182442; omega⟩) hS (fun H locs hP hS => ?_)
  refine lv_istore (lv' := [(6, .int r307), (0, .ref b), (1, .ref (fw_ad E 0 10)), (2, .ref (fw_ad E 0 18)), (3, .ref (fw_ad E 0 27)), (4, .ref (fw_ad E 0 28)), (5, .int x5)]) hx hb dL_law_2500 hl (by decide) rfl (fun ls hl => ?_)
  refine lv_aload_n hx hb dL_law_2502 rfl (lv_at hl 3 rfl) ?_
  obtain ⟨μ308, r308, hc308, h⟩ := fw_b2_e h
  refine fw_ret (va_runV (As := []) (rest := []) ⟨hx, hb, hml, hown, hU⟩ (k_X10_failedCommand l hE hc308) (cwV 0 hU (fw_gV m_1525 m_1526 m_1527 m_9 m_1528) rfl rfl rfl (by decide +kernel) ⟨(Nat.le_of_ble_eq_true rfl), (Nat.le_of_ble_eq_true rfl)⟩) ⟨fw_blind, fw_recv hK hP (fw_V0 (f := 18) (by decide) (by decide)) rfl rfl, fun U hU9 hW9 => ⟨rfl, fw_pre hK hP hSt hS U hU9 hW9⟩⟩ rfl rfl hl.1 rfl (lv_room (Nat.le_of_ble_eq_true rfl)) dL_law_2503 ⟨by show _ ≤ 603072; omega, by show _ ≤ 7182442; omega⟩) hS (fun H locs hP hS => ?_)
  refine lv_istore (lv' := [(7, .int r308), (6, .int r307), (0, .ref b), (1, .ref (fw_ad E 0 10)), (2, .ref (fw_ad E 0 18)), (3, .ref (fw_ad E 0 27)), (4, .ref (fw_ad E 0 28)), (5, .int x5)]) hx hb dL_law_2506 hl (by decide) rfl (fun ls hl => ?_)
  refine lv_aload_n hx hb dL_law_2508 rfl (lv_at hl 4 rfl) ?_
  obtain ⟨r309, hc309, h⟩ := fw_b1_e h
  refine fw_ret (va_runV (As := []) (rest := []) ⟨hx, hb, hml, hown, hU⟩ (k_X10_thrown l hE hc309) (cwV 0 hU (fw_gV m_1178 m_1179 m_1180 m_9 m_1181) rfl rfl rfl (by decide +kernel) ⟨(Nat.le_of_ble_eq_true rfl), (Nat.le_of_ble_eq_true rfl)⟩) ⟨fw_blind, fw_recv hK hP (fw_V0 (f := 18) (by decide) (by decide)) rfl rfl, fun U hU9 hW9 => ⟨rfl, fw_pre hK hP hSt hS U hU9 hW9⟩⟩ rfl rfl hl.1 rfl (lv_room (Nat.le_of_ble_eq_true rfl)) dL_law_2509 ⟨by show _ ≤ 603072; omega, by show _ ≤ 7182442; omega⟩) hS (fun H locs hP hS => ?_)
  refine lv_iload hx hb dL_law_2512 (lv_at hl 1 rfl) ?_
  refine lv_icmp_eq (tgt := 2519) hx hb dL_law_2514 (by decide) (fun c310 => ?_) (fun c310 => ?_)
  · rw [if_pos c310] at h
    refine lv_iload hx hb dL_law_2519 (lv_at hl 1 rfl) ?_
    refine lv_if_ne (tgt := 2536) hx hb dL_law_2521 (by decide) (fun c311 => ?_) (fun c311 => ?_)
    · rw [if_neg c311] at h
      refine lv_goto (tgt := 2765) hx hb dL_law_2536 (by decide) ?_
      refine lv_iinc (v := (x5 + (5 : Int32))) (lv' := [(5, .int (x5 + (5 : Int32))), (7, .int r308), (6, .int r307), (0, .ref b), (1, .ref (fw_ad E 0 10)), (2, .ref (fw_ad E 0 18)), (3, .ref (fw_ad E 0 27)), (4, .ref (fw_ad E 0 28))]) hx hb dL_law_2765 hl (k := 7) rfl rfl (by decide) rfl (fun ls hl => ?_)
      refine lv_goto (tgt := 28) hx hb dL_law_2768 (by decide) ?_
      exact ih _ _ _ _ H locs ls _ _ h hP hS (lv_sub hl [3, 4, 5, 6, 7, 0] rfl) (by omega) (by omega)
    · rw [if_pos c311] at h
      refine lv_aload_n hx hb dL_law_2524 rfl (lv_at hl 5 rfl) ?_
      refine lv_iconst (v := (0 : Int32)) hx hb dL_law_2525 (by decide) ?_
      refine va_lald (D := fw_D E) hx hb hK (fw_at hP (fw_V0 (f := 27) (by decide) (by decide))) 0 6 rfl rfl (fw_in_e (n := 1) (by decide)) dL_law_2526 ?_
      refine lv_iload hx hb dL_law_2527 (lv_at hl 0 rfl) ?_
      refine lv_i2l (v := r308.toInt64) hx hb dL_law_2529 rfl ?_
      refine W.lcmp hx hb dL_law_2530 ?_
      refine lv_if_eq (tgt := 2536) hx hb dL_law_2531 (by decide) (fun c312 => ?_) (fun c312 => ?_)
      · rw [if_pos c312] at h
        refine lv_goto (tgt := 2765) hx hb dL_law_2536 (by decide) ?_
        refine lv_iinc (v := (x5 + (5 : Int32))) (lv' := [(5, .int (x5 + (5 : Int32))), (7, .int r308), (6, .int r307), (0, .ref b), (1, .ref (fw_ad E 0 10)), (2, .ref (fw_ad E 0 18)), (3, .ref (fw_ad E 0 27)), (4, .ref (fw_ad E 0 28))]) hx hb dL_law_2765 hl (k := 7) rfl rfl (by decide) rfl (fun ls hl => ?_)
        refine lv_goto (tgt := 28) hx hb dL_law_2768 (by decide) ?_
        exact ih _ _ _ _ H locs ls _ _ h hP hS (lv_sub hl [3, 4, 5, 6, 7, 0] rfl) (by omega) (by omega)
      · rw [if_neg c312] at h
        refine lv_iconst (v := (0 : Int32)) hx hb dL_law_2534 (by decide) ?_
        cases h
  · rw [if_neg c310] at h
    refine lv_iconst (v := (0 : Int32)) hx hb dL_law_2517 (by decide) ?_
    cases h
set_option maxHeartbeats 4000000 in
set_option maxRecDepth 100000 in
theorem law_C2539 {p : Program} {l : Launch} {e : Env} {s : State} {m : MethodId} {below : List Frame} {meth : Method} {c : Code} {b L : Nat} {xs : Nat → Int32} {E : fw_E} {Q : State → Prop} (C0 : lc_At p l s m meth c b L xs E) (n : Nat) (K : fw_M → Int64 → UInt64 → Int32 → Option Unit) (ih : ∀ (μ : fw_M) (o : Int64) (d : UInt64) (x5 : Int32) (H : Heap) (locs : List Loc) (ls : Array Slot) (cells slots : Nat), K μ o d x5 = some () → fw_P E o d μ H → va_S (fw_A E) s.heap H locs → lv_has ls 9 [(0, .ref b), (1, .ref (fw_ad E 0 10)), (2, .ref (fw_ad E 0 18)), (3, .ref (fw_ad E 0 27)), (4, .ref (fw_ad E 0 28)), (5, .int x5)] → cells + 4 * n ≤ 603072 → slots + 24 * n ≤ 7182442 → W p l e room_1 s m #[Value.ref b] below meth c H locs cells slots Q (F0 m 28 ls [])) : ∀ (μ : fw_M) (o : Int64) (d : UInt64) (x5 : Int32) (H : Heap) (locs : List Loc) (ls : Array Slot) (cells slots : Nat), f_law_C2539 K xs L μ o d x5 = some () → fw_P E o d μ H → va_S (fw_A E) s.heap H locs → lv_has ls 9 [(0, .ref b), (1, .ref (fw_ad E 0 10)), (2, .ref (fw_ad E 0 18)), (3, .ref (fw_ad E 0 27)), (4, .ref (fw_ad E 0 28)), (5, .int x5)] → cells + 4 * (n + 1) ≤ 603072 → slots + 24 * (n + 1) ≤ 7182442 → W p l e room_1 s m #[Value.ref b] below meth c H locs cells slots Q (F0 m 2539 ls []) := by
  obtain ⟨hx, hb, hml, hown, hU, hK, hSt, hN2, hE, hst, hX, hbl, hbA, hz⟩ := C0
  intro μ o d x5 H locs ls cells slots h hP hS hl hc1 hc2
  unfold f_law_C2539 at h
  refine lv_aload_n hx hb dL_law_2539 rfl (lv_at hl 1 rfl) ?_
  refine lv_aload_n hx hb dL_law_2540 rfl (lv_at hl 0 rfl) ?_
  refine lv_iload hx hb dL_law_2541 (lv_at hl 5 rfl) ?_
  refine lv_iconst (v := (1 : Int32)) hx hb dL_law_2543 (by decide) ?_
  refine lv_iadd hx hb dL_law_2544 ?_
  obtain ⟨g313, h⟩ := fw_g_e h
  refine va_sld hx hb hX hbl hbA hS (fw_in_e g313) dL_law_2545 ?_
  refine lv_aload_n hx hb dL_law_2546 rfl (lv_at hl 3 rfl) ?_
  obtain ⟨μ314, o314, d314, r314, hc314, h⟩ := fw_b4_e h
  refine fw_retL (vx_runSW (As := [.ref (fw_ad E 0 10), .int (xs (x5 + (1 : Int32)).toNatClampNeg), .ref (fw_ad E 0 27)]) (rest := []) ⟨hx, hb, hml, hown, hU⟩ (k_L_writeBag l hst hE (xs (x5 + (1 : Int32)).toNatClampNeg) hc314) (vx_cwSW 3 hU (fw_gSW m_1059 m_1060 m_0 m_1061) rfl rfl rfl (by decide +kernel) ⟨(Nat.le_of_ble_eq_true rfl), (Nat.le_of_ble_eq_true rfl)⟩) ⟨fw_blind2, fun U hU9 hW9 => ⟨rfl, fw_pre hK hP hSt hS U hU9 hW9, fw_S2_go hN2 hW9⟩⟩ rfl rfl hl.1 rfl (lv_room (Nat.le_of_ble_eq_true rfl)) dL_law_2547 ⟨by show _ ≤ 603072; omega, by show _ ≤ 7182442; omega⟩) hS (fun H locs hP hS => ?_)
  refine lv_istore (lv' := [(6, .int r314), (0, .ref b), (1, .ref (fw_ad E 0 10)), (2, .ref (fw_ad E 0 18)), (3, .ref (fw_ad E 0 27)), (4, .ref (fw_ad E 0 28)), (5, .int x5)]) hx hb dL_law_2550 hl (by decide) rfl (fun ls hl => ?_)
  refine lv_aload_n hx hb dL_law_2552 rfl (lv_at hl 3 rfl) ?_
  refine lv_aload_n hx hb dL_law_2553 rfl (lv_at hl 1 rfl) ?_
  refine lv_iload hx hb dL_law_2554 (lv_at hl 6 rfl) ?_
  refine lv_iconst (v := (1 : Int32)) hx hb dL_law_2556 (by decide) ?_
  refine lv_iadd hx hb dL_law_2557 ?_
  refine va_sld hx hb hX hbl hbA hS (fw_in_e g313) dL_law_2558 ?_
  obtain ⟨μ315, r315, hc315, h⟩ := fw_b2_e h
  refine fw_ret (va_runV (As := [.int (xs (x5 + (1 : Int32)).toNatClampNeg)]) (rest := []) ⟨hx, hb, hml, hown, hU⟩ (k_X10_writeBag l hE (xs (x5 + (1 : Int32)).toNatClampNeg) hc315) (cwV 1 hU (fw_gV m_1529 m_1530 m_1531 m_9 m_1532) rfl rfl rfl (by decide +kernel) ⟨(Nat.le_of_ble_eq_true rfl), (Nat.le_of_ble_eq_true rfl)⟩) ⟨fw_blind, fw_recv hK hP (fw_V0 (f := 18) (by decide) (by decide)) rfl rfl, fun U hU9 hW9 => ⟨rfl, fw_pre hK hP hSt hS U hU9 hW9⟩⟩ rfl rfl hl.1 rfl (lv_room (Nat.le_of_ble_eq_true rfl)) dL_law_2559 ⟨by show _ ≤ 603072; omega, by show _ ≤ 7182442; omega⟩) hS (fun H locs hP hS => ?_)
  refine lv_istore (lv' := [(7, .int r315), (6, .int r314), (0, .ref b), (1, .ref (fw_ad E 0 10)), (2, .ref (fw_ad E 0 18)), (3, .ref (fw_ad E 0 27)), (4, .ref (fw_ad E 0 28)), (5, .int x5)]) hx hb dL_law_2562 hl (by decide) rfl (fun ls hl => ?_)
  refine lv_aload_n hx hb dL_law_2564 rfl (lv_at hl 4 rfl) ?_
  obtain ⟨r316, hc316, h⟩ := fw_b1_e h
  refine fw_ret (va_runV (As := []) (rest := []) ⟨hx, hb, hml, hown, hU⟩ (k_X10_thrown l hE hc316) (cwV 0 hU (fw_gV m_1178 m_1179 m_1180 m_9 m_1181) rfl rfl rfl (by decide +kernel) ⟨(Nat.le_of_ble_eq_true rfl), (Nat.le_of_ble_eq_true rfl)⟩) ⟨fw_blind, fw_recv hK hP (fw_V0 (f := 18) (by decide) (by decide)) rfl rfl, fun U hU9 hW9 => ⟨rfl, fw_pre hK hP hSt hS U hU9 hW9⟩⟩ rfl rfl hl.1 rfl (lv_room (Nat.le_of_ble_eq_true rfl)) dL_law_2565 ⟨by show _ ≤ 603072; omega, by show _ ≤ 7182442; omega⟩) hS (fun H locs hP hS => ?_)
  refine lv_iload hx hb dL_law_2568 (lv_at hl 1 rfl) ?_
  refine lv_icmp_eq (tgt := 2575) hx hb dL_law_2570 (by decide) (fun c317 => ?_) (fun c317 => ?_)
  · rw [if_pos c317] at h
    refine lv_iload hx hb dL_law_2575 (lv_at hl 1 rfl) ?_
    refine lv_if_ne (tgt := 2592) hx hb dL_law_2577 (by decide) (fun c318 => ?_) (fun c318 => ?_)
    · rw [if_neg c318] at h
      refine lv_goto (tgt := 2765) hx hb dL_law_2592 (by decide) ?_
      refine lv_iinc (v := (x5 + (5 : Int32))) (lv' := [(5, .int (x5 + (5 : Int32))), (7, .int r315), (6, .int r314), (0, .ref b), (1, .ref (fw_ad E 0 10)), (2, .ref (fw_ad E 0 18)), (3, .ref (fw_ad E 0 27)), (4, .ref (fw_ad E 0 28))]) hx hb dL_law_2765 hl (k := 7) rfl rfl (by decide) rfl (fun ls hl => ?_)
      refine lv_goto (tgt := 28) hx hb dL_law_2768 (by decide) ?_
      exact ih _ _ _ _ H locs ls _ _ h hP hS (lv_sub hl [3, 4, 5, 6, 7, 0] rfl) (by omega) (by omega)
    · rw [if_pos c318] at h
      refine lv_aload_n hx hb dL_law_2580 rfl (lv_at hl 5 rfl) ?_
      refine lv_iconst (v := (0 : Int32)) hx hb dL_law_2581 (by decide) ?_
      refine va_lald (D := fw_D E) hx hb hK (fw_at hP (fw_V0 (f := 27) (by decide) (by decide))) 0 6 rfl rfl (fw_in_e (n := 1) (by decide)) dL_law_2582 ?_
      refine lv_iload hx hb dL_law_2583 (lv_at hl 0 rfl) ?_
      refine lv_i2l (v := r315.toInt64) hx hb dL_law_2585 rfl ?_
      refine W.lcmp hx hb dL_law_2586 ?_
      refine lv_if_eq (tgt := 2592) hx hb dL_law_2587 (by decide) (fun c319 => ?_) (fun c319 => ?_)
      · rw [if_pos c319] at h
        refine lv_goto (tgt := 2765) hx hb dL_law_2592 (by decide) ?_
        refine lv_iinc (v := (x5 + (5 : Int32))) (lv' := [(5, .int (x5 + (5 : Int32))), (7, .int r315), (6, .int r314), (0, .ref b), (1, .ref (fw_ad E 0 10)), (2, .ref (fw_ad E 0 18)), (3, .ref (fw_ad E 0 27)), (4, .ref (fw_ad E 0 28))]) hx hb dL_law_2765 hl (k := 7) rfl rfl (by decide) rfl (fun ls hl => ?_)
        refine lv_goto (tgt := 28) hx hb dL_law_2768 (by decide) ?_
        exact ih _ _ _ _ H locs ls _ _ h hP hS (lv_sub hl [3, 4, 5, 6, 7, 0] rfl) (by omega) (by omega)
      · rw [if_neg c319] at h
        refine lv_iconst (v := (0 : Int32)) hx hb dL_law_2590 (by decide) ?_
        cases h
  · rw [if_neg c317] at h
    refine lv_iconst (v := (0 : Int32)) hx hb dL_law_2573 (by decide) ?_
    cases h
set_option maxHeartbeats 4000000 in
set_option maxRecDepth 100000 in
theorem law_C2595 {p : Program} {l : Launch} {e : Env} {s : State} {m : MethodId} {below : List Frame} {meth : Method} {c : Code} {b L : Nat} {xs : Nat → Int32} {E : fw_E} {Q : State → Prop} (C0 : lc_At p l s m meth c b L xs E) (n : Nat) (K : fw_M → Int64 → UInt64 → Int32 → Option Unit) (ih : ∀ (μ : fw_M) (o : Int64) (d : UInt64) (x5 : Int32) (H : Heap) (locs : List Loc) (ls : Array Slot) (cells slots : Nat), K μ o d x5 = some () → fw_P E o d μ H → va_S (fw_A E) s.heap H locs → lv_has ls 9 [(0, .ref b), (1, .ref (fw_ad E 0 10)), (2, .ref (fw_ad E 0 18)), (3, .ref (fw_ad E 0 27)), (4, .ref (fw_ad E 0 28)), (5, .int x5)] → cells + 4 * n ≤ 603072 → slots + 24 * n ≤ 7182442 → W p l e room_1 s m #[Value.ref b] below meth c H locs cells slots Q (F0 m 28 ls [])) : ∀ (μ : fw_M) (o : Int64) (d : UInt64) (x5 : Int32) (H : Heap) (locs : List Loc) (ls : Array Slot) (cells slots : Nat), f_law_C2595 K xs L μ o d x5 = some () → fw_P E o d μ H → va_S (fw_A E) s.heap H locs → lv_has ls 9 [(0, .ref b), (1, .ref (fw_ad E 0 10)), (2, .ref (fw_ad E 0 18)), (3, .ref (fw_ad E 0 27)), (4, .ref (fw_ad E 0 28)), (5, .int x5)] → cells + 4 * (n + 1) ≤ 603072 → slots + 24 * (n + 1) ≤ 7182442 → W p l e room_1 s m #[Value.ref b] below meth c H locs cells slots Q (F0 m 2595 ls []) := by
  obtain ⟨hx, hb, hml, hown, hU, hK, hSt, hN2, hE, hst, hX, hbl, hbA, hz⟩ := C0
  intro μ o d x5 H locs ls cells slots h hP hS hl hc1 hc2
  unfold f_law_C2595 at h
  refine lv_aload_n hx hb dL_law_2595 rfl (lv_at hl 1 rfl) ?_
  refine lv_aload_n hx hb dL_law_2596 rfl (lv_at hl 0 rfl) ?_
  refine lv_iload hx hb dL_law_2597 (lv_at hl 5 rfl) ?_
  refine lv_iconst (v := (1 : Int32)) hx hb dL_law_2599 (by decide) ?_
  refine lv_iadd hx hb dL_law_2600 ?_
  obtain ⟨g320, h⟩ := fw_g_e h
  refine va_sld hx hb hX hbl hbA hS (fw_in_e g320) dL_law_2601 ?_
  refine lv_aload_n hx hb dL_law_2602 rfl (lv_at hl 3 rfl) ?_
  obtain ⟨μ321, o321, d321, r321, hc321, h⟩ := fw_b4_e h
  refine fw_retL (vx_runSW (As := [.ref (fw_ad E 0 10), .int (xs (x5 + (1 : Int32)).toNatClampNeg), .ref (fw_ad E 0 27)]) (rest := []) ⟨hx, hb, hml, hown, hU⟩ (k_L_outputChar l hst hE (xs (x5 + (1 : Int32)).toNatClampNeg) hc321) (vx_cwSW 3 hU (fw_gSW m_1079 m_1080 m_0 m_1081) rfl rfl rfl (by decide +kernel) ⟨(Nat.le_of_ble_eq_true rfl), (Nat.le_of_ble_eq_true rfl)⟩) ⟨fw_blind2, fun U hU9 hW9 => ⟨rfl, fw_pre hK hP hSt hS U hU9 hW9, fw_S2_go hN2 hW9⟩⟩ rfl rfl hl.1 rfl (lv_room (Nat.le_of_ble_eq_true rfl)) dL_law_2603 ⟨by show _ ≤ 603072; omega, by show _ ≤ 7182442; omega⟩) hS (fun H locs hP hS => ?_)
  refine lv_istore (lv' := [(6, .int r321), (0, .ref b), (1, .ref (fw_ad E 0 10)), (2, .ref (fw_ad E 0 18)), (3, .ref (fw_ad E 0 27)), (4, .ref (fw_ad E 0 28)), (5, .int x5)]) hx hb dL_law_2606 hl (by decide) rfl (fun ls hl => ?_)
  refine lv_aload_n hx hb dL_law_2608 rfl (lv_at hl 3 rfl) ?_
  refine lv_aload_n hx hb dL_law_2609 rfl (lv_at hl 1 rfl) ?_
  refine lv_iload hx hb dL_law_2610 (lv_at hl 6 rfl) ?_
  refine lv_iconst (v := (1 : Int32)) hx hb dL_law_2612 (by decide) ?_
  refine lv_iadd hx hb dL_law_2613 ?_
  refine va_sld hx hb hX hbl hbA hS (fw_in_e g320) dL_law_2614 ?_
  obtain ⟨μ322, r322, hc322, h⟩ := fw_b2_e h
  refine fw_ret (va_runV (As := [.int (xs (x5 + (1 : Int32)).toNatClampNeg)]) (rest := []) ⟨hx, hb, hml, hown, hU⟩ (k_X10_outputChar l hE (xs (x5 + (1 : Int32)).toNatClampNeg) hc322) (cwV 1 hU (fw_gV m_1537 m_1538 m_1539 m_9 m_1540) rfl rfl rfl (by decide +kernel) ⟨(Nat.le_of_ble_eq_true rfl), (Nat.le_of_ble_eq_true rfl)⟩) ⟨fw_blind, fw_recv hK hP (fw_V0 (f := 18) (by decide) (by decide)) rfl rfl, fun U hU9 hW9 => ⟨rfl, fw_pre hK hP hSt hS U hU9 hW9⟩⟩ rfl rfl hl.1 rfl (lv_room (Nat.le_of_ble_eq_true rfl)) dL_law_2615 ⟨by show _ ≤ 603072; omega, by show _ ≤ 7182442; omega⟩) hS (fun H locs hP hS => ?_)
  refine lv_istore (lv' := [(7, .int r322), (6, .int r321), (0, .ref b), (1, .ref (fw_ad E 0 10)), (2, .ref (fw_ad E 0 18)), (3, .ref (fw_ad E 0 27)), (4, .ref (fw_ad E 0 28)), (5, .int x5)]) hx hb dL_law_2618 hl (by decide) rfl (fun ls hl => ?_)
  refine lv_aload_n hx hb dL_law_2620 rfl (lv_at hl 4 rfl) ?_
  obtain ⟨r323, hc323, h⟩ := fw_b1_e h
  refine fw_ret (va_runV (As := []) (rest := []) ⟨hx, hb, hml, hown, hU⟩ (k_X10_thrown l hE hc323) (cwV 0 hU (fw_gV m_1178 m_1179 m_1180 m_9 m_1181) rfl rfl rfl (by decide +kernel) ⟨(Nat.le_of_ble_eq_true rfl), (Nat.le_of_ble_eq_true rfl)⟩) ⟨fw_blind, fw_recv hK hP (fw_V0 (f := 18) (by decide) (by decide)) rfl rfl, fun U hU9 hW9 => ⟨rfl, fw_pre hK hP hSt hS U hU9 hW9⟩⟩ rfl rfl hl.1 rfl (lv_room (Nat.le_of_ble_eq_true rfl)) dL_law_2621 ⟨by show _ ≤ 603072; omega, by show _ ≤ 7182442; omega⟩) hS (fun H locs hP hS => ?_)
  refine lv_iload hx hb dL_law_2624 (lv_at hl 1 rfl) ?_
  refine lv_icmp_eq (tgt := 2631) hx hb dL_law_2626 (by decide) (fun c324 => ?_) (fun c324 => ?_)
  · rw [if_pos c324] at h
    refine lv_iload hx hb dL_law_2631 (lv_at hl 1 rfl) ?_
    refine lv_if_ne (tgt := 2648) hx hb dL_law_2633 (by decide) (fun c325 => ?_) (fun c325 => ?_)
    · rw [if_neg c325] at h
      refine lv_goto (tgt := 2765) hx hb dL_law_2648 (by decide) ?_
      refine lv_iinc (v := (x5 + (5 : Int32))) (lv' := [(5, .int (x5 + (5 : Int32))), (7, .int r322), (6, .int r321), (0, .ref b), (1, .ref (fw_ad E 0 10)), (2, .ref (fw_ad E 0 18)), (3, .ref (fw_ad E 0 27)), (4, .ref (fw_ad E 0 28))]) hx hb dL_law_2765 hl (k := 7) rfl rfl (by decide) rfl (fun ls hl => ?_)
      refine lv_goto (tgt := 28) hx hb dL_law_2768 (by decide) ?_
      exact ih _ _ _ _ H locs ls _ _ h hP hS (lv_sub hl [3, 4, 5, 6, 7, 0] rfl) (by omega) (by omega)
    · rw [if_pos c325] at h
      refine lv_aload_n hx hb dL_law_2636 rfl (lv_at hl 5 rfl) ?_
      refine lv_iconst (v := (0 : Int32)) hx hb dL_law_2637 (by decide) ?_
      refine va_lald (D := fw_D E) hx hb hK (fw_at hP (fw_V0 (f := 27) (by decide) (by decide))) 0 6 rfl rfl (fw_in_e (n := 1) (by decide)) dL_law_2638 ?_
      refine lv_iload hx hb dL_law_2639 (lv_at hl 0 rfl) ?_
      refine lv_i2l (v := r322.toInt64) hx hb dL_law_2641 rfl ?_
      refine W.lcmp hx hb dL_law_2642 ?_
      refine lv_if_eq (tgt := 2648) hx hb dL_law_2643 (by decide) (fun c326 => ?_) (fun c326 => ?_)
      · rw [if_pos c326] at h
        refine lv_goto (tgt := 2765) hx hb dL_law_2648 (by decide) ?_
        refine lv_iinc (v := (x5 + (5 : Int32))) (lv' := [(5, .int (x5 + (5 : Int32))), (7, .int r322), (6, .int r321), (0, .ref b), (1, .ref (fw_ad E 0 10)), (2, .ref (fw_ad E 0 18)), (3, .ref (fw_ad E 0 27)), (4, .ref (fw_ad E 0 28))]) hx hb dL_law_2765 hl (k := 7) rfl rfl (by decide) rfl (fun ls hl => ?_)
        refine lv_goto (tgt := 28) hx hb dL_law_2768 (by decide) ?_
        exact ih _ _ _ _ H locs ls _ _ h hP hS (lv_sub hl [3, 4, 5, 6, 7, 0] rfl) (by omega) (by omega)
      · rw [if_neg c326] at h
        refine lv_iconst (v := (0 : Int32)) hx hb dL_law_2646 (by decide) ?_
        cases h
  · rw [if_neg c324] at h
    refine lv_iconst (v := (0 : Int32)) hx hb dL_law_2629 (by decide) ?_
    cases h
set_option maxHeartbeats 4000000 in
set_option maxRecDepth 100000 in
theorem law_C2651 {p : Program} {l : Launch} {e : Env} {s : State} {m : MethodId} {below : List Frame} {meth : Method} {c : Code} {b L : Nat} {xs : Nat → Int32} {E : fw_E} {Q : State → Prop} (C0 : lc_At p l s m meth c b L xs E) (n : Nat) (K : fw_M → Int64 → UInt64 → Int32 → Option Unit) (ih : ∀ (μ : fw_M) (o : Int64) (d : UInt64) (x5 : Int32) (H : Heap) (locs : List Loc) (ls : Array Slot) (cells slots : Nat), K μ o d x5 = some () → fw_P E o d μ H → va_S (fw_A E) s.heap H locs → lv_has ls 9 [(0, .ref b), (1, .ref (fw_ad E 0 10)), (2, .ref (fw_ad E 0 18)), (3, .ref (fw_ad E 0 27)), (4, .ref (fw_ad E 0 28)), (5, .int x5)] → cells + 4 * n ≤ 603072 → slots + 24 * n ≤ 7182442 → W p l e room_1 s m #[Value.ref b] below meth c H locs cells slots Q (F0 m 28 ls [])) : ∀ (μ : fw_M) (o : Int64) (d : UInt64) (x5 : Int32) (H : Heap) (locs : List Loc) (ls : Array Slot) (cells slots : Nat), f_law_C2651 K xs L μ o d x5 = some () → fw_P E o d μ H → va_S (fw_A E) s.heap H locs → lv_has ls 9 [(0, .ref b), (1, .ref (fw_ad E 0 10)), (2, .ref (fw_ad E 0 18)), (3, .ref (fw_ad E 0 27)), (4, .ref (fw_ad E 0 28)), (5, .int x5)] → cells + 4 * (n + 1) ≤ 603072 → slots + 24 * (n + 1) ≤ 7182442 → W p l e room_1 s m #[Value.ref b] below meth c H locs cells slots Q (F0 m 2651 ls []) := by
  obtain ⟨hx, hb, hml, hown, hU, hK, hSt, hN2, hE, hst, hX, hbl, hbA, hz⟩ := C0
  intro μ o d x5 H locs ls cells slots h hP hS hl hc1 hc2
  unfold f_law_C2651 at h
  refine lv_aload_n hx hb dL_law_2651 rfl (lv_at hl 1 rfl) ?_
  obtain ⟨r327, hc327, h⟩ := fw_b1_e h
  refine fw_ret (va_runV (As := []) (rest := []) ⟨hx, hb, hml, hown, hU⟩ (k_X9_undoCount l hE hc327) (cwV 0 hU (fw_gV m_327 m_328 m_329 m_1 m_330) rfl rfl rfl (by decide +kernel) ⟨(Nat.le_of_ble_eq_true rfl), (Nat.le_of_ble_eq_true rfl)⟩) ⟨fw_blind, fw_recv hK hP (fw_V0 (f := 10) (by decide) (by decide)) rfl rfl, fun U hU9 hW9 => ⟨rfl, fw_pre hK hP hSt hS U hU9 hW9⟩⟩ rfl rfl hl.1 rfl (lv_room (Nat.le_of_ble_eq_true rfl)) dL_law_2652 ⟨by show _ ≤ 603072; omega, by show _ ≤ 7182442; omega⟩) hS (fun H locs hP hS => ?_)
  refine lv_aload_n hx hb dL_law_2655 rfl (lv_at hl 2 rfl) ?_
  obtain ⟨μ328, r328, hc328, h⟩ := fw_b2_e h
  refine fw_ret (va_runV (As := []) (rest := [.int r327]) ⟨hx, hb, hml, hown, hU⟩ (k_X10_undoCount l hE hc328) (cwV 0 hU (fw_gV m_1541 m_1542 m_1543 m_9 m_1544) rfl rfl rfl (by decide +kernel) ⟨(Nat.le_of_ble_eq_true rfl), (Nat.le_of_ble_eq_true rfl)⟩) ⟨fw_blind, fw_recv hK hP (fw_V0 (f := 18) (by decide) (by decide)) rfl rfl, fun U hU9 hW9 => ⟨rfl, fw_pre hK hP hSt hS U hU9 hW9⟩⟩ rfl rfl hl.1 rfl (lv_room (Nat.le_of_ble_eq_true rfl)) dL_law_2656 ⟨by show _ ≤ 603072; omega, by show _ ≤ 7182442; omega⟩) hS (fun H locs hP hS => ?_)
  refine lv_icmp_eq (tgt := 2765) hx hb dL_law_2659 (by decide) (fun c329 => ?_) (fun c329 => ?_)
  · rw [if_pos c329] at h
    refine lv_iinc (v := (x5 + (5 : Int32))) (lv' := [(5, .int (x5 + (5 : Int32))), (0, .ref b), (1, .ref (fw_ad E 0 10)), (2, .ref (fw_ad E 0 18)), (3, .ref (fw_ad E 0 27)), (4, .ref (fw_ad E 0 28))]) hx hb dL_law_2765 hl (k := 5) rfl rfl (by decide) rfl (fun ls hl => ?_)
    refine lv_goto (tgt := 28) hx hb dL_law_2768 (by decide) ?_
    exact ih _ _ _ _ H locs ls _ _ h hP hS (lv_sub hl [1, 2, 3, 4, 5, 0] rfl) (by omega) (by omega)
  · rw [if_neg c329] at h
    refine lv_iconst (v := (0 : Int32)) hx hb dL_law_2662 (by decide) ?_
    cases h
set_option maxHeartbeats 4000000 in
set_option maxRecDepth 100000 in
theorem law_C2664 {p : Program} {l : Launch} {e : Env} {s : State} {m : MethodId} {below : List Frame} {meth : Method} {c : Code} {b L : Nat} {xs : Nat → Int32} {E : fw_E} {Q : State → Prop} (C0 : lc_At p l s m meth c b L xs E) (n : Nat) (K : fw_M → Int64 → UInt64 → Int32 → Option Unit) (ih : ∀ (μ : fw_M) (o : Int64) (d : UInt64) (x5 : Int32) (H : Heap) (locs : List Loc) (ls : Array Slot) (cells slots : Nat), K μ o d x5 = some () → fw_P E o d μ H → va_S (fw_A E) s.heap H locs → lv_has ls 9 [(0, .ref b), (1, .ref (fw_ad E 0 10)), (2, .ref (fw_ad E 0 18)), (3, .ref (fw_ad E 0 27)), (4, .ref (fw_ad E 0 28)), (5, .int x5)] → cells + 4 * n ≤ 603072 → slots + 24 * n ≤ 7182442 → W p l e room_1 s m #[Value.ref b] below meth c H locs cells slots Q (F0 m 28 ls [])) : ∀ (μ : fw_M) (o : Int64) (d : UInt64) (x5 : Int32) (H : Heap) (locs : List Loc) (ls : Array Slot) (cells slots : Nat), f_law_C2664 K xs L μ o d x5 = some () → fw_P E o d μ H → va_S (fw_A E) s.heap H locs → lv_has ls 9 [(0, .ref b), (1, .ref (fw_ad E 0 10)), (2, .ref (fw_ad E 0 18)), (3, .ref (fw_ad E 0 27)), (4, .ref (fw_ad E 0 28)), (5, .int x5)] → cells + 4 * (n + 1) ≤ 603072 → slots + 24 * (n + 1) ≤ 7182442 → W p l e room_1 s m #[Value.ref b] below meth c H locs cells slots Q (F0 m 2664 ls []) := by
  obtain ⟨hx, hb, hml, hown, hU, hK, hSt, hN2, hE, hst, hX, hbl, hbA, hz⟩ := C0
  intro μ o d x5 H locs ls cells slots h hP hS hl hc1 hc2
  unfold f_law_C2664 at h
  refine lv_aload_n hx hb dL_law_2664 rfl (lv_at hl 1 rfl) ?_
  refine lv_aload_n hx hb dL_law_2665 rfl (lv_at hl 3 rfl) ?_
  obtain ⟨μ330, o330, d330, r330, hc330, h⟩ := fw_b4_e h
  refine fw_retL (vx_runSW (As := [.ref (fw_ad E 0 10), .ref (fw_ad E 0 27)]) (rest := []) ⟨hx, hb, hml, hown, hU⟩ (k_L_undo l hst hE  hc330) (vx_cwSW 2 hU (fw_gSW m_1087 m_1088 m_0 m_1089) rfl rfl rfl (by decide +kernel) ⟨(Nat.le_of_ble_eq_true rfl), (Nat.le_of_ble_eq_true rfl)⟩) ⟨fw_blind2, fun U hU9 hW9 => ⟨rfl, fw_pre hK hP hSt hS U hU9 hW9, fw_S2_go hN2 hW9⟩⟩ rfl rfl hl.1 rfl (lv_room (Nat.le_of_ble_eq_true rfl)) dL_law_2666 ⟨by show _ ≤ 603072; omega, by show _ ≤ 7182442; omega⟩) hS (fun H locs hP hS => ?_)
  refine lv_istore (lv' := [(6, .int r330), (0, .ref b), (1, .ref (fw_ad E 0 10)), (2, .ref (fw_ad E 0 18)), (3, .ref (fw_ad E 0 27)), (4, .ref (fw_ad E 0 28)), (5, .int x5)]) hx hb dL_law_2669 hl (by decide) rfl (fun ls hl => ?_)
  refine lv_aload_n hx hb dL_law_2671 rfl (lv_at hl 3 rfl) ?_
  obtain ⟨μ331, r331, hc331, h⟩ := fw_b2_e h
  refine fw_ret (va_runV (As := []) (rest := []) ⟨hx, hb, hml, hown, hU⟩ (k_X10_undo l hE hc331) (cwV 0 hU (fw_gV m_1545 m_1546 m_1547 m_9 m_1548) rfl rfl rfl (by decide +kernel) ⟨(Nat.le_of_ble_eq_true rfl), (Nat.le_of_ble_eq_true rfl)⟩) ⟨fw_blind, fw_recv hK hP (fw_V0 (f := 18) (by decide) (by decide)) rfl rfl, fun U hU9 hW9 => ⟨rfl, fw_pre hK hP hSt hS U hU9 hW9⟩⟩ rfl rfl hl.1 rfl (lv_room (Nat.le_of_ble_eq_true rfl)) dL_law_2672 ⟨by show _ ≤ 603072; omega, by show _ ≤ 7182442; omega⟩) hS (fun H locs hP hS => ?_)
  refine lv_istore (lv' := [(7, .int r331), (6, .int r330), (0, .ref b), (1, .ref (fw_ad E 0 10)), (2, .ref (fw_ad E 0 18)), (3, .ref (fw_ad E 0 27)), (4, .ref (fw_ad E 0 28)), (5, .int x5)]) hx hb dL_law_2675 hl (by decide) rfl (fun ls hl => ?_)
  refine lv_aload_n hx hb dL_law_2677 rfl (lv_at hl 4 rfl) ?_
  obtain ⟨r332, hc332, h⟩ := fw_b1_e h
  refine fw_ret (va_runV (As := []) (rest := []) ⟨hx, hb, hml, hown, hU⟩ (k_X10_thrown l hE hc332) (cwV 0 hU (fw_gV m_1178 m_1179 m_1180 m_9 m_1181) rfl rfl rfl (by decide +kernel) ⟨(Nat.le_of_ble_eq_true rfl), (Nat.le_of_ble_eq_true rfl)⟩) ⟨fw_blind, fw_recv hK hP (fw_V0 (f := 18) (by decide) (by decide)) rfl rfl, fun U hU9 hW9 => ⟨rfl, fw_pre hK hP hSt hS U hU9 hW9⟩⟩ rfl rfl hl.1 rfl (lv_room (Nat.le_of_ble_eq_true rfl)) dL_law_2678 ⟨by show _ ≤ 603072; omega, by show _ ≤ 7182442; omega⟩) hS (fun H locs hP hS => ?_)
  refine lv_iload hx hb dL_law_2681 (lv_at hl 1 rfl) ?_
  refine lv_icmp_eq (tgt := 2688) hx hb dL_law_2683 (by decide) (fun c333 => ?_) (fun c333 => ?_)
  · rw [if_pos c333] at h
    refine lv_iload hx hb dL_law_2688 (lv_at hl 1 rfl) ?_
    refine lv_if_ne (tgt := 2705) hx hb dL_law_2690 (by decide) (fun c334 => ?_) (fun c334 => ?_)
    · rw [if_neg c334] at h
      refine lv_goto (tgt := 2765) hx hb dL_law_2705 (by decide) ?_
      refine lv_iinc (v := (x5 + (5 : Int32))) (lv' := [(5, .int (x5 + (5 : Int32))), (7, .int r331), (6, .int r330), (0, .ref b), (1, .ref (fw_ad E 0 10)), (2, .ref (fw_ad E 0 18)), (3, .ref (fw_ad E 0 27)), (4, .ref (fw_ad E 0 28))]) hx hb dL_law_2765 hl (k := 7) rfl rfl (by decide) rfl (fun ls hl => ?_)
      refine lv_goto (tgt := 28) hx hb dL_law_2768 (by decide) ?_
      exact ih _ _ _ _ H locs ls _ _ h hP hS (lv_sub hl [3, 4, 5, 6, 7, 0] rfl) (by omega) (by omega)
    · rw [if_pos c334] at h
      refine lv_aload_n hx hb dL_law_2693 rfl (lv_at hl 5 rfl) ?_
      refine lv_iconst (v := (0 : Int32)) hx hb dL_law_2694 (by decide) ?_
      refine va_lald (D := fw_D E) hx hb hK (fw_at hP (fw_V0 (f := 27) (by decide) (by decide))) 0 6 rfl rfl (fw_in_e (n := 1) (by decide)) dL_law_2695 ?_
      refine lv_iload hx hb dL_law_2696 (lv_at hl 0 rfl) ?_
      refine lv_i2l (v := r331.toInt64) hx hb dL_law_2698 rfl ?_
      refine W.lcmp hx hb dL_law_2699 ?_
      refine lv_if_eq (tgt := 2705) hx hb dL_law_2700 (by decide) (fun c335 => ?_) (fun c335 => ?_)
      · rw [if_pos c335] at h
        refine lv_goto (tgt := 2765) hx hb dL_law_2705 (by decide) ?_
        refine lv_iinc (v := (x5 + (5 : Int32))) (lv' := [(5, .int (x5 + (5 : Int32))), (7, .int r331), (6, .int r330), (0, .ref b), (1, .ref (fw_ad E 0 10)), (2, .ref (fw_ad E 0 18)), (3, .ref (fw_ad E 0 27)), (4, .ref (fw_ad E 0 28))]) hx hb dL_law_2765 hl (k := 7) rfl rfl (by decide) rfl (fun ls hl => ?_)
        refine lv_goto (tgt := 28) hx hb dL_law_2768 (by decide) ?_
        exact ih _ _ _ _ H locs ls _ _ h hP hS (lv_sub hl [3, 4, 5, 6, 7, 0] rfl) (by omega) (by omega)
      · rw [if_neg c335] at h
        refine lv_iconst (v := (0 : Int32)) hx hb dL_law_2703 (by decide) ?_
        cases h
  · rw [if_neg c333] at h
    refine lv_iconst (v := (0 : Int32)) hx hb dL_law_2686 (by decide) ?_
    cases h
set_option maxHeartbeats 4000000 in
set_option maxRecDepth 100000 in
theorem law_C2708 {p : Program} {l : Launch} {e : Env} {s : State} {m : MethodId} {below : List Frame} {meth : Method} {c : Code} {b L : Nat} {xs : Nat → Int32} {E : fw_E} {Q : State → Prop} (C0 : lc_At p l s m meth c b L xs E) (n : Nat) (K : fw_M → Int64 → UInt64 → Int32 → Option Unit) (ih : ∀ (μ : fw_M) (o : Int64) (d : UInt64) (x5 : Int32) (H : Heap) (locs : List Loc) (ls : Array Slot) (cells slots : Nat), K μ o d x5 = some () → fw_P E o d μ H → va_S (fw_A E) s.heap H locs → lv_has ls 9 [(0, .ref b), (1, .ref (fw_ad E 0 10)), (2, .ref (fw_ad E 0 18)), (3, .ref (fw_ad E 0 27)), (4, .ref (fw_ad E 0 28)), (5, .int x5)] → cells + 4 * n ≤ 603072 → slots + 24 * n ≤ 7182442 → W p l e room_1 s m #[Value.ref b] below meth c H locs cells slots Q (F0 m 28 ls [])) : ∀ (μ : fw_M) (o : Int64) (d : UInt64) (x5 : Int32) (H : Heap) (locs : List Loc) (ls : Array Slot) (cells slots : Nat), f_law_C2708 K xs L μ o d x5 = some () → fw_P E o d μ H → va_S (fw_A E) s.heap H locs → lv_has ls 9 [(0, .ref b), (1, .ref (fw_ad E 0 10)), (2, .ref (fw_ad E 0 18)), (3, .ref (fw_ad E 0 27)), (4, .ref (fw_ad E 0 28)), (5, .int x5)] → cells + 4 * (n + 1) ≤ 603072 → slots + 24 * (n + 1) ≤ 7182442 → W p l e room_1 s m #[Value.ref b] below meth c H locs cells slots Q (F0 m 2708 ls []) := by
  obtain ⟨hx, hb, hml, hown, hU, hK, hSt, hN2, hE, hst, hX, hbl, hbA, hz⟩ := C0
  intro μ o d x5 H locs ls cells slots h hP hS hl hc1 hc2
  unfold f_law_C2708 at h
  refine lv_aload_n hx hb dL_law_2708 rfl (lv_at hl 1 rfl) ?_
  obtain ⟨μ336, r336, hc336, h⟩ := fw_b2_e h
  refine fw_ret (va_runV (As := []) (rest := []) ⟨hx, hb, hml, hown, hU⟩ (k_X9_save l hE hc336) (cwV 0 hU (fw_gV m_331 m_332 m_333 m_1 m_334) rfl rfl rfl (by decide +kernel) ⟨(Nat.le_of_ble_eq_true rfl), (Nat.le_of_ble_eq_true rfl)⟩) ⟨fw_blind, fw_recv hK hP (fw_V0 (f := 10) (by decide) (by decide)) rfl rfl, fun U hU9 hW9 => ⟨rfl, fw_pre hK hP hSt hS U hU9 hW9⟩⟩ rfl rfl hl.1 rfl (lv_room (Nat.le_of_ble_eq_true rfl)) dL_law_2709 ⟨by show _ ≤ 603072; omega, by show _ ≤ 7182442; omega⟩) hS (fun H locs hP hS => ?_)
  refine lv_aload_n hx hb dL_law_2712 rfl (lv_at hl 2 rfl) ?_
  obtain ⟨μ337, r337, hc337, h⟩ := fw_b2_e h
  refine fw_ret (va_runV (As := []) (rest := [.int r336]) ⟨hx, hb, hml, hown, hU⟩ (k_X10_save l hE hc337) (cwV 0 hU (fw_gV m_1549 m_1550 m_1551 m_9 m_1552) rfl rfl rfl (by decide +kernel) ⟨(Nat.le_of_ble_eq_true rfl), (Nat.le_of_ble_eq_true rfl)⟩) ⟨fw_blind, fw_recv hK hP (fw_V0 (f := 18) (by decide) (by decide)) rfl rfl, fun U hU9 hW9 => ⟨rfl, fw_pre hK hP hSt hS U hU9 hW9⟩⟩ rfl rfl hl.1 rfl (lv_room (Nat.le_of_ble_eq_true rfl)) dL_law_2713 ⟨by show _ ≤ 603072; omega, by show _ ≤ 7182442; omega⟩) hS (fun H locs hP hS => ?_)
  refine lv_icmp_eq (tgt := 2765) hx hb dL_law_2716 (by decide) (fun c338 => ?_) (fun c338 => ?_)
  · rw [if_pos c338] at h
    refine lv_iinc (v := (x5 + (5 : Int32))) (lv' := [(5, .int (x5 + (5 : Int32))), (0, .ref b), (1, .ref (fw_ad E 0 10)), (2, .ref (fw_ad E 0 18)), (3, .ref (fw_ad E 0 27)), (4, .ref (fw_ad E 0 28))]) hx hb dL_law_2765 hl (k := 5) rfl rfl (by decide) rfl (fun ls hl => ?_)
    refine lv_goto (tgt := 28) hx hb dL_law_2768 (by decide) ?_
    exact ih _ _ _ _ H locs ls _ _ h hP hS (lv_sub hl [1, 2, 3, 4, 5, 0] rfl) (by omega) (by omega)
  · rw [if_neg c338] at h
    refine lv_iconst (v := (0 : Int32)) hx hb dL_law_2719 (by decide) ?_
    cases h
set_option maxHeartbeats 4000000 in
set_option maxRecDepth 100000 in
theorem law_C2721 {p : Program} {l : Launch} {e : Env} {s : State} {m : MethodId} {below : List Frame} {meth : Method} {c : Code} {b L : Nat} {xs : Nat → Int32} {E : fw_E} {Q : State → Prop} (C0 : lc_At p l s m meth c b L xs E) (n : Nat) (K : fw_M → Int64 → UInt64 → Int32 → Option Unit) (ih : ∀ (μ : fw_M) (o : Int64) (d : UInt64) (x5 : Int32) (H : Heap) (locs : List Loc) (ls : Array Slot) (cells slots : Nat), K μ o d x5 = some () → fw_P E o d μ H → va_S (fw_A E) s.heap H locs → lv_has ls 9 [(0, .ref b), (1, .ref (fw_ad E 0 10)), (2, .ref (fw_ad E 0 18)), (3, .ref (fw_ad E 0 27)), (4, .ref (fw_ad E 0 28)), (5, .int x5)] → cells + 4 * n ≤ 603072 → slots + 24 * n ≤ 7182442 → W p l e room_1 s m #[Value.ref b] below meth c H locs cells slots Q (F0 m 28 ls [])) : ∀ (μ : fw_M) (o : Int64) (d : UInt64) (x5 : Int32) (H : Heap) (locs : List Loc) (ls : Array Slot) (cells slots : Nat), f_law_C2721 K xs L μ o d x5 = some () → fw_P E o d μ H → va_S (fw_A E) s.heap H locs → lv_has ls 9 [(0, .ref b), (1, .ref (fw_ad E 0 10)), (2, .ref (fw_ad E 0 18)), (3, .ref (fw_ad E 0 27)), (4, .ref (fw_ad E 0 28)), (5, .int x5)] → cells + 4 * (n + 1) ≤ 603072 → slots + 24 * (n + 1) ≤ 7182442 → W p l e room_1 s m #[Value.ref b] below meth c H locs cells slots Q (F0 m 2721 ls []) := by
  obtain ⟨hx, hb, hml, hown, hU, hK, hSt, hN2, hE, hst, hX, hbl, hbA, hz⟩ := C0
  intro μ o d x5 H locs ls cells slots h hP hS hl hc1 hc2
  unfold f_law_C2721 at h
  refine lv_aload_n hx hb dL_law_2721 rfl (lv_at hl 1 rfl) ?_
  refine lv_aload_n hx hb dL_law_2722 rfl (lv_at hl 3 rfl) ?_
  obtain ⟨μ339, o339, d339, r339, hc339, h⟩ := fw_b4_e h
  refine fw_retL (vx_runSW (As := [.ref (fw_ad E 0 10), .ref (fw_ad E 0 27)]) (rest := []) ⟨hx, hb, hml, hown, hU⟩ (k_L_restore l hst hE  hc339) (vx_cwSW 2 hU (fw_gSW m_1099 m_1100 m_0 m_1101) rfl rfl rfl (by decide +kernel) ⟨(Nat.le_of_ble_eq_true rfl), (Nat.le_of_ble_eq_true rfl)⟩) ⟨fw_blind2, fun U hU9 hW9 => ⟨rfl, fw_pre hK hP hSt hS U hU9 hW9, fw_S2_go hN2 hW9⟩⟩ rfl rfl hl.1 rfl (lv_room (Nat.le_of_ble_eq_true rfl)) dL_law_2723 ⟨by show _ ≤ 603072; omega, by show _ ≤ 7182442; omega⟩) hS (fun H locs hP hS => ?_)
  refine lv_istore (lv' := [(6, .int r339), (0, .ref b), (1, .ref (fw_ad E 0 10)), (2, .ref (fw_ad E 0 18)), (3, .ref (fw_ad E 0 27)), (4, .ref (fw_ad E 0 28)), (5, .int x5)]) hx hb dL_law_2726 hl (by decide) rfl (fun ls hl => ?_)
  refine lv_aload_n hx hb dL_law_2728 rfl (lv_at hl 3 rfl) ?_
  obtain ⟨μ340, r340, hc340, h⟩ := fw_b2_e h
  refine fw_ret (va_runV (As := []) (rest := []) ⟨hx, hb, hml, hown, hU⟩ (k_X10_restore l hE hc340) (cwV 0 hU (fw_gV m_1553 m_1554 m_1555 m_9 m_1556) rfl rfl rfl (by decide +kernel) ⟨(Nat.le_of_ble_eq_true rfl), (Nat.le_of_ble_eq_true rfl)⟩) ⟨fw_blind, fw_recv hK hP (fw_V0 (f := 18) (by decide) (by decide)) rfl rfl, fun U hU9 hW9 => ⟨rfl, fw_pre hK hP hSt hS U hU9 hW9⟩⟩ rfl rfl hl.1 rfl (lv_room (Nat.le_of_ble_eq_true rfl)) dL_law_2729 ⟨by show _ ≤ 603072; omega, by show _ ≤ 7182442; omega⟩) hS (fun H locs hP hS => ?_)
  refine lv_istore (lv' := [(7, .int r340), (6, .int r339), (0, .ref b), (1, .ref (fw_ad E 0 10)), (2, .ref (fw_ad E 0 18)), (3, .ref (fw_ad E 0 27)), (4, .ref (fw_ad E 0 28)), (5, .int x5)]) hx hb dL_law_2732 hl (by decide) rfl (fun ls hl => ?_)
  refine lv_aload_n hx hb dL_law_2734 rfl (lv_at hl 4 rfl) ?_
  obtain ⟨r341, hc341, h⟩ := fw_b1_e h
  refine fw_ret (va_runV (As := []) (rest := []) ⟨hx, hb, hml, hown, hU⟩ (k_X10_thrown l hE hc341) (cwV 0 hU (fw_gV m_1178 m_1179 m_1180 m_9 m_1181) rfl rfl rfl (by decide +kernel) ⟨(Nat.le_of_ble_eq_true rfl), (Nat.le_of_ble_eq_true rfl)⟩) ⟨fw_blind, fw_recv hK hP (fw_V0 (f := 18) (by decide) (by decide)) rfl rfl, fun U hU9 hW9 => ⟨rfl, fw_pre hK hP hSt hS U hU9 hW9⟩⟩ rfl rfl hl.1 rfl (lv_room (Nat.le_of_ble_eq_true rfl)) dL_law_2735 ⟨by show _ ≤ 603072; omega, by show _ ≤ 7182442; omega⟩) hS (fun H locs hP hS => ?_)
  refine lv_iload hx hb dL_law_2738 (lv_at hl 1 rfl) ?_
  refine lv_icmp_eq (tgt := 2745) hx hb dL_law_2740 (by decide) (fun c342 => ?_) (fun c342 => ?_)
  · rw [if_pos c342] at h
    refine lv_iload hx hb dL_law_2745 (lv_at hl 1 rfl) ?_
    refine lv_if_ne (tgt := 2762) hx hb dL_law_2747 (by decide) (fun c343 => ?_) (fun c343 => ?_)
    · rw [if_neg c343] at h
      refine lv_goto (tgt := 2765) hx hb dL_law_2762 (by decide) ?_
      refine lv_iinc (v := (x5 + (5 : Int32))) (lv' := [(5, .int (x5 + (5 : Int32))), (7, .int r340), (6, .int r339), (0, .ref b), (1, .ref (fw_ad E 0 10)), (2, .ref (fw_ad E 0 18)), (3, .ref (fw_ad E 0 27)), (4, .ref (fw_ad E 0 28))]) hx hb dL_law_2765 hl (k := 7) rfl rfl (by decide) rfl (fun ls hl => ?_)
      refine lv_goto (tgt := 28) hx hb dL_law_2768 (by decide) ?_
      exact ih _ _ _ _ H locs ls _ _ h hP hS (lv_sub hl [3, 4, 5, 6, 7, 0] rfl) (by omega) (by omega)
    · rw [if_pos c343] at h
      refine lv_aload_n hx hb dL_law_2750 rfl (lv_at hl 5 rfl) ?_
      refine lv_iconst (v := (0 : Int32)) hx hb dL_law_2751 (by decide) ?_
      refine va_lald (D := fw_D E) hx hb hK (fw_at hP (fw_V0 (f := 27) (by decide) (by decide))) 0 6 rfl rfl (fw_in_e (n := 1) (by decide)) dL_law_2752 ?_
      refine lv_iload hx hb dL_law_2753 (lv_at hl 0 rfl) ?_
      refine lv_i2l (v := r340.toInt64) hx hb dL_law_2755 rfl ?_
      refine W.lcmp hx hb dL_law_2756 ?_
      refine lv_if_eq (tgt := 2762) hx hb dL_law_2757 (by decide) (fun c344 => ?_) (fun c344 => ?_)
      · rw [if_pos c344] at h
        refine lv_goto (tgt := 2765) hx hb dL_law_2762 (by decide) ?_
        refine lv_iinc (v := (x5 + (5 : Int32))) (lv' := [(5, .int (x5 + (5 : Int32))), (7, .int r340), (6, .int r339), (0, .ref b), (1, .ref (fw_ad E 0 10)), (2, .ref (fw_ad E 0 18)), (3, .ref (fw_ad E 0 27)), (4, .ref (fw_ad E 0 28))]) hx hb dL_law_2765 hl (k := 7) rfl rfl (by decide) rfl (fun ls hl => ?_)
        refine lv_goto (tgt := 28) hx hb dL_law_2768 (by decide) ?_
        exact ih _ _ _ _ H locs ls _ _ h hP hS (lv_sub hl [3, 4, 5, 6, 7, 0] rfl) (by omega) (by omega)
      · rw [if_neg c344] at h
        refine lv_iconst (v := (0 : Int32)) hx hb dL_law_2760 (by decide) ?_
        cases h
  · rw [if_neg c342] at h
    refine lv_iconst (v := (0 : Int32)) hx hb dL_law_2743 (by decide) ?_
    cases h
set_option maxHeartbeats 4000000 in
set_option maxRecDepth 100000 in
theorem law_L {p : Program} {l : Launch} {e : Env} {s : State} {m : MethodId} {below : List Frame} {meth : Method} {c : Code} {b L : Nat} {xs : Nat → Int32} {E : fw_E} {Q : State → Prop} (C0 : lc_At p l s m meth c b L xs E) (hQ : ∀ (H : Heap) (ls : Array Slot) (pc : Nat), decode cL_law pc = .ok (.ireturn, 1) → W p l e room_1 s m #[Value.ref b] below meth c H [] 603072 7182442 Q (F0 m pc ls [.int 1])) : ∀ (n : Nat) (μ : fw_M) (o : Int64) (d : UInt64) (x5 : Int32) (H : Heap) (locs : List Loc) (ls : Array Slot) (cells slots : Nat), f_law_L xs L n μ o d x5 = some () → fw_P E o d μ H → va_S (fw_A E) s.heap H locs → lv_has ls 9 [(0, .ref b), (1, .ref (fw_ad E 0 10)), (2, .ref (fw_ad E 0 18)), (3, .ref (fw_ad E 0 27)), (4, .ref (fw_ad E 0 28)), (5, .int x5)] → cells + 4 * n ≤ 603072 → slots + 24 * n ≤ 7182442 → W p l e room_1 s m #[Value.ref b] below meth c H locs cells slots Q (F0 m 28 ls []) := by
  intro n
  induction n with
  | zero => intro μ o d x5 H locs ls cells slots h; rw [f_law_L] at h; cases h
  | succ n ih =>
    obtain ⟨hx, hb, hml, hown, hU, hK, hSt, hN2, hE, hst, hX, hbl, hbA, hz⟩ := id C0
    intro μ o d x5 H locs ls cells slots h hP hS hl hc1 hc2
    rw [f_law_L] at h
    refine lv_iload hx hb dL_law_28 (lv_at hl 5 rfl) ?_
    refine lv_aload_n hx hb dL_law_30 rfl (lv_at hl 0 rfl) ?_
    refine va_slen hx hb hX hbl hbA hS dL_law_31 ?_
    refine lv_iconst (v := (5 : Int32)) hx hb dL_law_32 (by decide) ?_
    refine lv_isub hx hb dL_law_33 ?_
    refine lv_icmp_gt (tgt := 2771) hx hb dL_law_34 (by decide) (fun c1 => ?_) (fun c1 => ?_)
    · rw [if_pos c1] at h
      refine lv_iconst (v := (1 : Int32)) hx hb dL_law_2771 (by decide) ?_
      refine va_forget (fun q hq => hz ▸ hS.2.2 q hq) ?_
      refine W.widen (k := 603072) (n := 7182442) (by omega) (by omega) ?_
      exact hQ _ _ _ dL_law_2772
    · rw [if_neg c1] at h
      refine lv_aload_n hx hb dL_law_37 rfl (lv_at hl 0 rfl) ?_
      refine lv_iload hx hb dL_law_38 (lv_at hl 5 rfl) ?_
      obtain ⟨g2, h⟩ := fw_g_e h
      refine va_sld hx hb hX hbl hbA hS (fw_in_e g2) dL_law_40 ?_
      refine lv_bipush (v := (63 : Int32)) hx hb dL_law_41 (by decide) ?_
      refine lv_iand hx hb dL_law_43 ?_
      by_cases q44_0 : ((xs x5.toNatClampNeg) &&& (63 : Int32)) = (0 : Int32)
      · rw [if_pos q44_0] at h
        rw [q44_0]
        refine lv_tableIn (tgt := 248) hx hb dL_law_44 (by decide) (by decide) rfl (by decide) ?_
        exact law_C248 C0 n (f_law_L xs L n) ih μ o d x5 H locs ls _ _ h hP hS (lv_sub hl [0, 1, 2, 3, 4, 5] rfl) hc1 hc2
      · rw [if_neg q44_0] at h
        by_cases q44_1 : ((xs x5.toNatClampNeg) &&& (63 : Int32)) = (1 : Int32)
        · rw [if_pos q44_1] at h
          rw [q44_1]
          refine lv_tableIn (tgt := 356) hx hb dL_law_44 (by decide) (by decide) rfl (by decide) ?_
          exact law_C356 C0 n (f_law_L xs L n) ih μ o d x5 H locs ls _ _ h hP hS (lv_sub hl [0, 1, 2, 3, 4, 5] rfl) hc1 hc2
        · rw [if_neg q44_1] at h
          by_cases q44_2 : ((xs x5.toNatClampNeg) &&& (63 : Int32)) = (2 : Int32)
          · rw [if_pos q44_2] at h
            rw [q44_2]
            refine lv_tableIn (tgt := 424) hx hb dL_law_44 (by decide) (by decide) rfl (by decide) ?_
            exact law_C424 C0 n (f_law_L xs L n) ih μ o d x5 H locs ls _ _ h hP hS (lv_sub hl [0, 1, 2, 3, 4, 5] rfl) hc1 hc2
          · rw [if_neg q44_2] at h
            by_cases q44_3 : ((xs x5.toNatClampNeg) &&& (63 : Int32)) = (3 : Int32)
            · rw [if_pos q44_3] at h
              rw [q44_3]
              refine lv_tableIn (tgt := 480) hx hb dL_law_44 (by decide) (by decide) rfl (by decide) ?_
              exact law_C480 C0 n (f_law_L xs L n) ih μ o d x5 H locs ls _ _ h hP hS (lv_sub hl [0, 1, 2, 3, 4, 5] rfl) hc1 hc2
            · rw [if_neg q44_3] at h
              by_cases q44_4 : ((xs x5.toNatClampNeg) &&& (63 : Int32)) = (4 : Int32)
              · rw [if_pos q44_4] at h
                rw [q44_4]
                refine lv_tableIn (tgt := 570) hx hb dL_law_44 (by decide) (by decide) rfl (by decide) ?_
                exact law_C570 C0 n (f_law_L xs L n) ih μ o d x5 H locs ls _ _ h hP hS (lv_sub hl [0, 1, 2, 3, 4, 5] rfl) hc1 hc2
              · rw [if_neg q44_4] at h
                by_cases q44_5 : ((xs x5.toNatClampNeg) &&& (63 : Int32)) = (5 : Int32)
                · rw [if_pos q44_5] at h
                  rw [q44_5]
                  refine lv_tableIn (tgt := 626) hx hb dL_law_44 (by decide) (by decide) rfl (by decide) ?_
                  exact law_C626 C0 n (f_law_L xs L n) ih μ o d x5 H locs ls _ _ h hP hS (lv_sub hl [0, 1, 2, 3, 4, 5] rfl) hc1 hc2
                · rw [if_neg q44_5] at h
                  by_cases q44_6 : ((xs x5.toNatClampNeg) &&& (63 : Int32)) = (6 : Int32)
                  · rw [if_pos q44_6] at h
                    rw [q44_6]
                    refine lv_tableIn (tgt := 639) hx hb dL_law_44 (by decide) (by decide) rfl (by decide) ?_
                    exact law_C639 C0 n (f_law_L xs L n) ih μ o d x5 H locs ls _ _ h hP hS (lv_sub hl [0, 1, 2, 3, 4, 5] rfl) hc1 hc2
                  · rw [if_neg q44_6] at h
                    by_cases q44_7 : ((xs x5.toNatClampNeg) &&& (63 : Int32)) = (7 : Int32)
                    · rw [if_pos q44_7] at h
                      rw [q44_7]
                      refine lv_tableIn (tgt := 695) hx hb dL_law_44 (by decide) (by decide) rfl (by decide) ?_
                      exact law_C695 C0 n (f_law_L xs L n) ih μ o d x5 H locs ls _ _ h hP hS (lv_sub hl [0, 1, 2, 3, 4, 5] rfl) hc1 hc2
                    · rw [if_neg q44_7] at h
                      by_cases q44_8 : ((xs x5.toNatClampNeg) &&& (63 : Int32)) = (8 : Int32)
                      · rw [if_pos q44_8] at h
                        rw [q44_8]
                        refine lv_tableIn (tgt := 758) hx hb dL_law_44 (by decide) (by decide) rfl (by decide) ?_
                        exact law_C758 C0 n (f_law_L xs L n) ih μ o d x5 H locs ls _ _ h hP hS (lv_sub hl [0, 1, 2, 3, 4, 5] rfl) hc1 hc2
                      · rw [if_neg q44_8] at h
                        by_cases q44_9 : ((xs x5.toNatClampNeg) &&& (63 : Int32)) = (9 : Int32)
                        · rw [if_pos q44_9] at h
                          rw [q44_9]
                          refine lv_tableIn (tgt := 814) hx hb dL_law_44 (by decide) (by decide) rfl (by decide) ?_
                          exact law_C814 C0 n (f_law_L xs L n) ih μ o d x5 H locs ls _ _ h hP hS (lv_sub hl [0, 1, 2, 3, 4, 5] rfl) hc1 hc2
                        · rw [if_neg q44_9] at h
                          by_cases q44_10 : ((xs x5.toNatClampNeg) &&& (63 : Int32)) = (10 : Int32)
                          · rw [if_pos q44_10] at h
                            rw [q44_10]
                            refine lv_tableIn (tgt := 870) hx hb dL_law_44 (by decide) (by decide) rfl (by decide) ?_
                            exact law_C870 C0 n (f_law_L xs L n) ih μ o d x5 H locs ls _ _ h hP hS (lv_sub hl [0, 1, 2, 3, 4, 5] rfl) hc1 hc2
                          · rw [if_neg q44_10] at h
                            by_cases q44_11 : ((xs x5.toNatClampNeg) &&& (63 : Int32)) = (11 : Int32)
                            · rw [if_pos q44_11] at h
                              rw [q44_11]
                              refine lv_tableIn (tgt := 926) hx hb dL_law_44 (by decide) (by decide) rfl (by decide) ?_
                              exact law_C926 C0 n (f_law_L xs L n) ih μ o d x5 H locs ls _ _ h hP hS (lv_sub hl [0, 1, 2, 3, 4, 5] rfl) hc1 hc2
                            · rw [if_neg q44_11] at h
                              by_cases q44_12 : ((xs x5.toNatClampNeg) &&& (63 : Int32)) = (12 : Int32)
                              · rw [if_pos q44_12] at h
                                rw [q44_12]
                                refine lv_tableIn (tgt := 982) hx hb dL_law_44 (by decide) (by decide) rfl (by decide) ?_
                                exact law_C982 C0 n (f_law_L xs L n) ih μ o d x5 H locs ls _ _ h hP hS (lv_sub hl [0, 1, 2, 3, 4, 5] rfl) hc1 hc2
                              · rw [if_neg q44_12] at h
                                by_cases q44_13 : ((xs x5.toNatClampNeg) &&& (63 : Int32)) = (13 : Int32)
                                · rw [if_pos q44_13] at h
                                  rw [q44_13]
                                  refine lv_tableIn (tgt := 1038) hx hb dL_law_44 (by decide) (by decide) rfl (by decide) ?_
                                  exact law_C1038 C0 n (f_law_L xs L n) ih μ o d x5 H locs ls _ _ h hP hS (lv_sub hl [0, 1, 2, 3, 4, 5] rfl) hc1 hc2
                                · rw [if_neg q44_13] at h
                                  by_cases q44_14 : ((xs x5.toNatClampNeg) &&& (63 : Int32)) = (14 : Int32)
                                  · rw [if_pos q44_14] at h
                                    rw [q44_14]
                                    refine lv_tableIn (tgt := 1094) hx hb dL_law_44 (by decide) (by decide) rfl (by decide) ?_
                                    exact law_C1094 C0 n (f_law_L xs L n) ih μ o d x5 H locs ls _ _ h hP hS (lv_sub hl [0, 1, 2, 3, 4, 5] rfl) hc1 hc2
                                  · rw [if_neg q44_14] at h
                                    by_cases q44_15 : ((xs x5.toNatClampNeg) &&& (63 : Int32)) = (15 : Int32)
                                    · rw [if_pos q44_15] at h
                                      rw [q44_15]
                                      refine lv_tableIn (tgt := 1150) hx hb dL_law_44 (by decide) (by decide) rfl (by decide) ?_
                                      exact law_C1150 C0 n (f_law_L xs L n) ih μ o d x5 H locs ls _ _ h hP hS (lv_sub hl [0, 1, 2, 3, 4, 5] rfl) hc1 hc2
                                    · rw [if_neg q44_15] at h
                                      by_cases q44_16 : ((xs x5.toNatClampNeg) &&& (63 : Int32)) = (16 : Int32)
                                      · rw [if_pos q44_16] at h
                                        rw [q44_16]
                                        refine lv_tableIn (tgt := 1206) hx hb dL_law_44 (by decide) (by decide) rfl (by decide) ?_
                                        exact law_C1206 C0 n (f_law_L xs L n) ih μ o d x5 H locs ls _ _ h hP hS (lv_sub hl [0, 1, 2, 3, 4, 5] rfl) hc1 hc2
                                      · rw [if_neg q44_16] at h
                                        by_cases q44_17 : ((xs x5.toNatClampNeg) &&& (63 : Int32)) = (17 : Int32)
                                        · rw [if_pos q44_17] at h
                                          rw [q44_17]
                                          refine lv_tableIn (tgt := 1262) hx hb dL_law_44 (by decide) (by decide) rfl (by decide) ?_
                                          exact law_C1262 C0 n (f_law_L xs L n) ih μ o d x5 H locs ls _ _ h hP hS (lv_sub hl [0, 1, 2, 3, 4, 5] rfl) hc1 hc2
                                        · rw [if_neg q44_17] at h
                                          by_cases q44_18 : ((xs x5.toNatClampNeg) &&& (63 : Int32)) = (18 : Int32)
                                          · rw [if_pos q44_18] at h
                                            rw [q44_18]
                                            refine lv_tableIn (tgt := 1318) hx hb dL_law_44 (by decide) (by decide) rfl (by decide) ?_
                                            exact law_C1318 C0 n (f_law_L xs L n) ih μ o d x5 H locs ls _ _ h hP hS (lv_sub hl [0, 1, 2, 3, 4, 5] rfl) hc1 hc2
                                          · rw [if_neg q44_18] at h
                                            by_cases q44_19 : ((xs x5.toNatClampNeg) &&& (63 : Int32)) = (19 : Int32)
                                            · rw [if_pos q44_19] at h
                                              rw [q44_19]
                                              refine lv_tableIn (tgt := 1331) hx hb dL_law_44 (by decide) (by decide) rfl (by decide) ?_
                                              exact law_C1331 C0 n (f_law_L xs L n) ih μ o d x5 H locs ls _ _ h hP hS (lv_sub hl [0, 1, 2, 3, 4, 5] rfl) hc1 hc2
                                            · rw [if_neg q44_19] at h
                                              by_cases q44_20 : ((xs x5.toNatClampNeg) &&& (63 : Int32)) = (20 : Int32)
                                              · rw [if_pos q44_20] at h
                                                rw [q44_20]
                                                refine lv_tableIn (tgt := 1409) hx hb dL_law_44 (by decide) (by decide) rfl (by decide) ?_
                                                exact law_C1409 C0 n (f_law_L xs L n) ih μ o d x5 H locs ls _ _ h hP hS (lv_sub hl [0, 1, 2, 3, 4, 5] rfl) hc1 hc2
                                              · rw [if_neg q44_20] at h
                                                by_cases q44_21 : ((xs x5.toNatClampNeg) &&& (63 : Int32)) = (21 : Int32)
                                                · rw [if_pos q44_21] at h
                                                  rw [q44_21]
                                                  refine lv_tableIn (tgt := 1465) hx hb dL_law_44 (by decide) (by decide) rfl (by decide) ?_
                                                  exact law_C1465 C0 n (f_law_L xs L n) ih μ o d x5 H locs ls _ _ h hP hS (lv_sub hl [0, 1, 2, 3, 4, 5] rfl) hc1 hc2
                                                · rw [if_neg q44_21] at h
                                                  by_cases q44_22 : ((xs x5.toNatClampNeg) &&& (63 : Int32)) = (22 : Int32)
                                                  · rw [if_pos q44_22] at h
                                                    rw [q44_22]
                                                    refine lv_tableIn (tgt := 1521) hx hb dL_law_44 (by decide) (by decide) rfl (by decide) ?_
                                                    exact law_C1521 C0 n (f_law_L xs L n) ih μ o d x5 H locs ls _ _ h hP hS (lv_sub hl [0, 1, 2, 3, 4, 5] rfl) hc1 hc2
                                                  · rw [if_neg q44_22] at h
                                                    by_cases q44_23 : ((xs x5.toNatClampNeg) &&& (63 : Int32)) = (23 : Int32)
                                                    · rw [if_pos q44_23] at h
                                                      rw [q44_23]
                                                      refine lv_tableIn (tgt := 1577) hx hb dL_law_44 (by decide) (by decide) rfl (by decide) ?_
                                                      exact law_C1577 C0 n (f_law_L xs L n) ih μ o d x5 H locs ls _ _ h hP hS (lv_sub hl [0, 1, 2, 3, 4, 5] rfl) hc1 hc2
                                                    · rw [if_neg q44_23] at h
                                                      by_cases q44_24 : ((xs x5.toNatClampNeg) &&& (63 : Int32)) = (24 : Int32)
                                                      · rw [if_pos q44_24] at h
                                                        rw [q44_24]
                                                        refine lv_tableIn (tgt := 1633) hx hb dL_law_44 (by decide) (by decide) rfl (by decide) ?_
                                                        exact law_C1633 C0 n (f_law_L xs L n) ih μ o d x5 H locs ls _ _ h hP hS (lv_sub hl [0, 1, 2, 3, 4, 5] rfl) hc1 hc2
                                                      · rw [if_neg q44_24] at h
                                                        by_cases q44_25 : ((xs x5.toNatClampNeg) &&& (63 : Int32)) = (25 : Int32)
                                                        · rw [if_pos q44_25] at h
                                                          rw [q44_25]
                                                          refine lv_tableIn (tgt := 1689) hx hb dL_law_44 (by decide) (by decide) rfl (by decide) ?_
                                                          exact law_C1689 C0 n (f_law_L xs L n) ih μ o d x5 H locs ls _ _ h hP hS (lv_sub hl [0, 1, 2, 3, 4, 5] rfl) hc1 hc2
                                                        · rw [if_neg q44_25] at h
                                                          by_cases q44_26 : ((xs x5.toNatClampNeg) &&& (63 : Int32)) = (26 : Int32)
                                                          · rw [if_pos q44_26] at h
                                                            rw [q44_26]
                                                            refine lv_tableIn (tgt := 1745) hx hb dL_law_44 (by decide) (by decide) rfl (by decide) ?_
                                                            exact law_C1745 C0 n (f_law_L xs L n) ih μ o d x5 H locs ls _ _ h hP hS (lv_sub hl [0, 1, 2, 3, 4, 5] rfl) hc1 hc2
                                                          · rw [if_neg q44_26] at h
                                                            by_cases q44_27 : ((xs x5.toNatClampNeg) &&& (63 : Int32)) = (27 : Int32)
                                                            · rw [if_pos q44_27] at h
                                                              rw [q44_27]
                                                              refine lv_tableIn (tgt := 1801) hx hb dL_law_44 (by decide) (by decide) rfl (by decide) ?_
                                                              exact law_C1801 C0 n (f_law_L xs L n) ih μ o d x5 H locs ls _ _ h hP hS (lv_sub hl [0, 1, 2, 3, 4, 5] rfl) hc1 hc2
                                                            · rw [if_neg q44_27] at h
                                                              by_cases q44_28 : ((xs x5.toNatClampNeg) &&& (63 : Int32)) = (28 : Int32)
                                                              · rw [if_pos q44_28] at h
                                                                rw [q44_28]
                                                                refine lv_tableIn (tgt := 1891) hx hb dL_law_44 (by decide) (by decide) rfl (by decide) ?_
                                                                exact law_C1891 C0 n (f_law_L xs L n) ih μ o d x5 H locs ls _ _ h hP hS (lv_sub hl [0, 1, 2, 3, 4, 5] rfl) hc1 hc2
                                                              · rw [if_neg q44_28] at h
                                                                by_cases q44_29 : ((xs x5.toNatClampNeg) &&& (63 : Int32)) = (29 : Int32)
                                                                · rw [if_pos q44_29] at h
                                                                  rw [q44_29]
                                                                  refine lv_tableIn (tgt := 1969) hx hb dL_law_44 (by decide) (by decide) rfl (by decide) ?_
                                                                  exact law_C1969 C0 n (f_law_L xs L n) ih μ o d x5 H locs ls _ _ h hP hS (lv_sub hl [0, 1, 2, 3, 4, 5] rfl) hc1 hc2
                                                                · rw [if_neg q44_29] at h
                                                                  by_cases q44_30 : ((xs x5.toNatClampNeg) &&& (63 : Int32)) = (30 : Int32)
                                                                  · rw [if_pos q44_30] at h
                                                                    rw [q44_30]
                                                                    refine lv_tableIn (tgt := 2025) hx hb dL_law_44 (by decide) (by decide) rfl (by decide) ?_
                                                                    exact law_C2025 C0 n (f_law_L xs L n) ih μ o d x5 H locs ls _ _ h hP hS (lv_sub hl [0, 1, 2, 3, 4, 5] rfl) hc1 hc2
                                                                  · rw [if_neg q44_30] at h
                                                                    by_cases q44_31 : ((xs x5.toNatClampNeg) &&& (63 : Int32)) = (31 : Int32)
                                                                    · rw [if_pos q44_31] at h
                                                                      rw [q44_31]
                                                                      refine lv_tableIn (tgt := 2080) hx hb dL_law_44 (by decide) (by decide) rfl (by decide) ?_
                                                                      exact law_C2080 C0 n (f_law_L xs L n) ih μ o d x5 H locs ls _ _ h hP hS (lv_sub hl [0, 1, 2, 3, 4, 5] rfl) hc1 hc2
                                                                    · rw [if_neg q44_31] at h
                                                                      by_cases q44_32 : ((xs x5.toNatClampNeg) &&& (63 : Int32)) = (32 : Int32)
                                                                      · rw [if_pos q44_32] at h
                                                                        rw [q44_32]
                                                                        refine lv_tableIn (tgt := 2093) hx hb dL_law_44 (by decide) (by decide) rfl (by decide) ?_
                                                                        exact law_C2093 C0 n (f_law_L xs L n) ih μ o d x5 H locs ls _ _ h hP hS (lv_sub hl [0, 1, 2, 3, 4, 5] rfl) hc1 hc2
                                                                      · rw [if_neg q44_32] at h
                                                                        by_cases q44_33 : ((xs x5.toNatClampNeg) &&& (63 : Int32)) = (33 : Int32)
                                                                        · rw [if_pos q44_33] at h
                                                                          rw [q44_33]
                                                                          refine lv_tableIn (tgt := 2149) hx hb dL_law_44 (by decide) (by decide) rfl (by decide) ?_
                                                                          exact law_C2149 C0 n (f_law_L xs L n) ih μ o d x5 H locs ls _ _ h hP hS (lv_sub hl [0, 1, 2, 3, 4, 5] rfl) hc1 hc2
                                                                        · rw [if_neg q44_33] at h
                                                                          by_cases q44_34 : ((xs x5.toNatClampNeg) &&& (63 : Int32)) = (34 : Int32)
                                                                          · rw [if_pos q44_34] at h
                                                                            rw [q44_34]
                                                                            refine lv_tableIn (tgt := 2205) hx hb dL_law_44 (by decide) (by decide) rfl (by decide) ?_
                                                                            exact law_C2205 C0 n (f_law_L xs L n) ih μ o d x5 H locs ls _ _ h hP hS (lv_sub hl [0, 1, 2, 3, 4, 5] rfl) hc1 hc2
                                                                          · rw [if_neg q44_34] at h
                                                                            by_cases q44_35 : ((xs x5.toNatClampNeg) &&& (63 : Int32)) = (35 : Int32)
                                                                            · rw [if_pos q44_35] at h
                                                                              rw [q44_35]
                                                                              refine lv_tableIn (tgt := 2270) hx hb dL_law_44 (by decide) (by decide) rfl (by decide) ?_
                                                                              exact law_C2270 C0 n (f_law_L xs L n) ih μ o d x5 H locs ls _ _ h hP hS (lv_sub hl [0, 1, 2, 3, 4, 5] rfl) hc1 hc2
                                                                            · rw [if_neg q44_35] at h
                                                                              by_cases q44_36 : ((xs x5.toNatClampNeg) &&& (63 : Int32)) = (36 : Int32)
                                                                              · rw [if_pos q44_36] at h
                                                                                rw [q44_36]
                                                                                refine lv_tableIn (tgt := 2336) hx hb dL_law_44 (by decide) (by decide) rfl (by decide) ?_
                                                                                exact law_C2336 C0 n (f_law_L xs L n) ih μ o d x5 H locs ls _ _ h hP hS (lv_sub hl [0, 1, 2, 3, 4, 5] rfl) hc1 hc2
                                                                              · rw [if_neg q44_36] at h
                                                                                by_cases q44_37 : ((xs x5.toNatClampNeg) &&& (63 : Int32)) = (37 : Int32)
                                                                                · rw [if_pos q44_37] at h
                                                                                  rw [q44_37]
                                                                                  refine lv_tableIn (tgt := 2349) hx hb dL_law_44 (by decide) (by decide) rfl (by decide) ?_
                                                                                  exact law_C2349 C0 n (f_law_L xs L n) ih μ o d x5 H locs ls _ _ h hP hS (lv_sub hl [0, 1, 2, 3, 4, 5] rfl) hc1 hc2
                                                                                · rw [if_neg q44_37] at h
                                                                                  by_cases q44_38 : ((xs x5.toNatClampNeg) &&& (63 : Int32)) = (38 : Int32)
                                                                                  · rw [if_pos q44_38] at h
                                                                                    rw [q44_38]
                                                                                    refine lv_tableIn (tgt := 2407) hx hb dL_law_44 (by decide) (by decide) rfl (by decide) ?_
                                                                                    exact law_C2407 C0 n (f_law_L xs L n) ih μ o d x5 H locs ls _ _ h hP hS (lv_sub hl [0, 1, 2, 3, 4, 5] rfl) hc1 hc2
                                                                                  · rw [if_neg q44_38] at h
                                                                                    by_cases q44_39 : ((xs x5.toNatClampNeg) &&& (63 : Int32)) = (39 : Int32)
                                                                                    · rw [if_pos q44_39] at h
                                                                                      rw [q44_39]
                                                                                      refine lv_tableIn (tgt := 2451) hx hb dL_law_44 (by decide) (by decide) rfl (by decide) ?_
                                                                                      exact law_C2451 C0 n (f_law_L xs L n) ih μ o d x5 H locs ls _ _ h hP hS (lv_sub hl [0, 1, 2, 3, 4, 5] rfl) hc1 hc2
                                                                                    · rw [if_neg q44_39] at h
                                                                                      by_cases q44_40 : ((xs x5.toNatClampNeg) &&& (63 : Int32)) = (40 : Int32)
                                                                                      · rw [if_pos q44_40] at h
                                                                                        rw [q44_40]
                                                                                        refine lv_tableIn (tgt := 2495) hx hb dL_law_44 (by decide) (by decide) rfl (by decide) ?_
                                                                                        exact law_C2495 C0 n (f_law_L xs L n) ih μ o d x5 H locs ls _ _ h hP hS (lv_sub hl [0, 1, 2, 3, 4, 5] rfl) hc1 hc2
                                                                                      · rw [if_neg q44_40] at h
                                                                                        by_cases q44_41 : ((xs x5.toNatClampNeg) &&& (63 : Int32)) = (41 : Int32)
                                                                                        · rw [if_pos q44_41] at h
                                                                                          rw [q44_41]
                                                                                          refine lv_tableIn (tgt := 2539) hx hb dL_law_44 (by decide) (by decide) rfl (by decide) ?_
                                                                                          exact law_C2539 C0 n (f_law_L xs L n) ih μ o d x5 H locs ls _ _ h hP hS (lv_sub hl [0, 1, 2, 3, 4, 5] rfl) hc1 hc2
                                                                                        · rw [if_neg q44_41] at h
                                                                                          by_cases q44_42 : ((xs x5.toNatClampNeg) &&& (63 : Int32)) = (42 : Int32)
                                                                                          · rw [if_pos q44_42] at h
                                                                                            rw [q44_42]
                                                                                            refine lv_tableIn (tgt := 2595) hx hb dL_law_44 (by decide) (by decide) rfl (by decide) ?_
                                                                                            exact law_C2595 C0 n (f_law_L xs L n) ih μ o d x5 H locs ls _ _ h hP hS (lv_sub hl [0, 1, 2, 3, 4, 5] rfl) hc1 hc2
                                                                                          · rw [if_neg q44_42] at h
                                                                                            by_cases q44_43 : ((xs x5.toNatClampNeg) &&& (63 : Int32)) = (43 : Int32)
                                                                                            · rw [if_pos q44_43] at h
                                                                                              rw [q44_43]
                                                                                              refine lv_tableIn (tgt := 2651) hx hb dL_law_44 (by decide) (by decide) rfl (by decide) ?_
                                                                                              exact law_C2651 C0 n (f_law_L xs L n) ih μ o d x5 H locs ls _ _ h hP hS (lv_sub hl [0, 1, 2, 3, 4, 5] rfl) hc1 hc2
                                                                                            · rw [if_neg q44_43] at h
                                                                                              by_cases q44_44 : ((xs x5.toNatClampNeg) &&& (63 : Int32)) = (44 : Int32)
                                                                                              · rw [if_pos q44_44] at h
                                                                                                rw [q44_44]
                                                                                                refine lv_tableIn (tgt := 2664) hx hb dL_law_44 (by decide) (by decide) rfl (by decide) ?_
                                                                                                exact law_C2664 C0 n (f_law_L xs L n) ih μ o d x5 H locs ls _ _ h hP hS (lv_sub hl [0, 1, 2, 3, 4, 5] rfl) hc1 hc2
                                                                                              · rw [if_neg q44_44] at h
                                                                                                by_cases q44_45 : ((xs x5.toNatClampNeg) &&& (63 : Int32)) = (45 : Int32)
                                                                                                · rw [if_pos q44_45] at h
                                                                                                  rw [q44_45]
                                                                                                  refine lv_tableIn (tgt := 2708) hx hb dL_law_44 (by decide) (by decide) rfl (by decide) ?_
                                                                                                  exact law_C2708 C0 n (f_law_L xs L n) ih μ o d x5 H locs ls _ _ h hP hS (lv_sub hl [0, 1, 2, 3, 4, 5] rfl) hc1 hc2
                                                                                                · rw [if_neg q44_45] at h
                                                                                                  by_cases q44_46 : ((xs x5.toNatClampNeg) &&& (63 : Int32)) = (46 : Int32)
                                                                                                  · rw [if_pos q44_46] at h
                                                                                                    rw [q44_46]
                                                                                                    refine lv_tableIn (tgt := 2721) hx hb dL_law_44 (by decide) (by decide) rfl (by decide) ?_
                                                                                                    exact law_C2721 C0 n (f_law_L xs L n) ih μ o d x5 H locs ls _ _ h hP hS (lv_sub hl [0, 1, 2, 3, 4, 5] rfl) hc1 hc2
                                                                                                  · rw [if_neg q44_46] at h
                                                                                                    have hsw : ((xs x5.toNatClampNeg) &&& (63 : Int32)).toInt < 0 ∨ 46 < ((xs x5.toNatClampNeg) &&& (63 : Int32)).toInt := by
                                                                                                      have e0 : ¬ ((xs x5.toNatClampNeg) &&& (63 : Int32)).toInt = 0 := fun z => q44_0 (Int32.toInt_inj.mp z)
                                                                                                      have e1 : ¬ ((xs x5.toNatClampNeg) &&& (63 : Int32)).toInt = 1 := fun z => q44_1 (Int32.toInt_inj.mp z)
                                                                                                      have e2 : ¬ ((xs x5.toNatClampNeg) &&& (63 : Int32)).toInt = 2 := fun z => q44_2 (Int32.toInt_inj.mp z)
                                                                                                      have e3 : ¬ ((xs x5.toNatClampNeg) &&& (63 : Int32)).toInt = 3 := fun z => q44_3 (Int32.toInt_inj.mp z)
                                                                                                      have e4 : ¬ ((xs x5.toNatClampNeg) &&& (63 : Int32)).toInt = 4 := fun z => q44_4 (Int32.toInt_inj.mp z)
                                                                                                      have e5 : ¬ ((xs x5.toNatClampNeg) &&& (63 : Int32)).toInt = 5 := fun z => q44_5 (Int32.toInt_inj.mp z)
                                                                                                      have e6 : ¬ ((xs x5.toNatClampNeg) &&& (63 : Int32)).toInt = 6 := fun z => q44_6 (Int32.toInt_inj.mp z)
                                                                                                      have e7 : ¬ ((xs x5.toNatClampNeg) &&& (63 : Int32)).toInt = 7 := fun z => q44_7 (Int32.toInt_inj.mp z)
                                                                                                      have e8 : ¬ ((xs x5.toNatClampNeg) &&& (63 : Int32)).toInt = 8 := fun z => q44_8 (Int32.toInt_inj.mp z)
                                                                                                      have e9 : ¬ ((xs x5.toNatClampNeg) &&& (63 : Int32)).toInt = 9 := fun z => q44_9 (Int32.toInt_inj.mp z)
                                                                                                      have e10 : ¬ ((xs x5.toNatClampNeg) &&& (63 : Int32)).toInt = 10 := fun z => q44_10 (Int32.toInt_inj.mp z)
                                                                                                      have e11 : ¬ ((xs x5.toNatClampNeg) &&& (63 : Int32)).toInt = 11 := fun z => q44_11 (Int32.toInt_inj.mp z)
                                                                                                      have e12 : ¬ ((xs x5.toNatClampNeg) &&& (63 : Int32)).toInt = 12 := fun z => q44_12 (Int32.toInt_inj.mp z)
                                                                                                      have e13 : ¬ ((xs x5.toNatClampNeg) &&& (63 : Int32)).toInt = 13 := fun z => q44_13 (Int32.toInt_inj.mp z)
                                                                                                      have e14 : ¬ ((xs x5.toNatClampNeg) &&& (63 : Int32)).toInt = 14 := fun z => q44_14 (Int32.toInt_inj.mp z)
                                                                                                      have e15 : ¬ ((xs x5.toNatClampNeg) &&& (63 : Int32)).toInt = 15 := fun z => q44_15 (Int32.toInt_inj.mp z)
                                                                                                      have e16 : ¬ ((xs x5.toNatClampNeg) &&& (63 : Int32)).toInt = 16 := fun z => q44_16 (Int32.toInt_inj.mp z)
                                                                                                      have e17 : ¬ ((xs x5.toNatClampNeg) &&& (63 : Int32)).toInt = 17 := fun z => q44_17 (Int32.toInt_inj.mp z)
                                                                                                      have e18 : ¬ ((xs x5.toNatClampNeg) &&& (63 : Int32)).toInt = 18 := fun z => q44_18 (Int32.toInt_inj.mp z)
                                                                                                      have e19 : ¬ ((xs x5.toNatClampNeg) &&& (63 : Int32)).toInt = 19 := fun z => q44_19 (Int32.toInt_inj.mp z)
                                                                                                      have e20 : ¬ ((xs x5.toNatClampNeg) &&& (63 : Int32)).toInt = 20 := fun z => q44_20 (Int32.toInt_inj.mp z)
                                                                                                      have e21 : ¬ ((xs x5.toNatClampNeg) &&& (63 : Int32)).toInt = 21 := fun z => q44_21 (Int32.toInt_inj.mp z)
                                                                                                      have e22 : ¬ ((xs x5.toNatClampNeg) &&& (63 : Int32)).toInt = 22 := fun z => q44_22 (Int32.toInt_inj.mp z)
                                                                                                      have e23 : ¬ ((xs x5.toNatClampNeg) &&& (63 : Int32)).toInt = 23 := fun z => q44_23 (Int32.toInt_inj.mp z)
                                                                                                      have e24 : ¬ ((xs x5.toNatClampNeg) &&& (63 : Int32)).toInt = 24 := fun z => q44_24 (Int32.toInt_inj.mp z)
                                                                                                      have e25 : ¬ ((xs x5.toNatClampNeg) &&& (63 : Int32)).toInt = 25 := fun z => q44_25 (Int32.toInt_inj.mp z)
                                                                                                      have e26 : ¬ ((xs x5.toNatClampNeg) &&& (63 : Int32)).toInt = 26 := fun z => q44_26 (Int32.toInt_inj.mp z)
                                                                                                      have e27 : ¬ ((xs x5.toNatClampNeg) &&& (63 : Int32)).toInt = 27 := fun z => q44_27 (Int32.toInt_inj.mp z)
                                                                                                      have e28 : ¬ ((xs x5.toNatClampNeg) &&& (63 : Int32)).toInt = 28 := fun z => q44_28 (Int32.toInt_inj.mp z)
                                                                                                      have e29 : ¬ ((xs x5.toNatClampNeg) &&& (63 : Int32)).toInt = 29 := fun z => q44_29 (Int32.toInt_inj.mp z)
                                                                                                      have e30 : ¬ ((xs x5.toNatClampNeg) &&& (63 : Int32)).toInt = 30 := fun z => q44_30 (Int32.toInt_inj.mp z)
                                                                                                      have e31 : ¬ ((xs x5.toNatClampNeg) &&& (63 : Int32)).toInt = 31 := fun z => q44_31 (Int32.toInt_inj.mp z)
                                                                                                      have e32 : ¬ ((xs x5.toNatClampNeg) &&& (63 : Int32)).toInt = 32 := fun z => q44_32 (Int32.toInt_inj.mp z)
                                                                                                      have e33 : ¬ ((xs x5.toNatClampNeg) &&& (63 : Int32)).toInt = 33 := fun z => q44_33 (Int32.toInt_inj.mp z)
                                                                                                      have e34 : ¬ ((xs x5.toNatClampNeg) &&& (63 : Int32)).toInt = 34 := fun z => q44_34 (Int32.toInt_inj.mp z)
                                                                                                      have e35 : ¬ ((xs x5.toNatClampNeg) &&& (63 : Int32)).toInt = 35 := fun z => q44_35 (Int32.toInt_inj.mp z)
                                                                                                      have e36 : ¬ ((xs x5.toNatClampNeg) &&& (63 : Int32)).toInt = 36 := fun z => q44_36 (Int32.toInt_inj.mp z)
                                                                                                      have e37 : ¬ ((xs x5.toNatClampNeg) &&& (63 : Int32)).toInt = 37 := fun z => q44_37 (Int32.toInt_inj.mp z)
                                                                                                      have e38 : ¬ ((xs x5.toNatClampNeg) &&& (63 : Int32)).toInt = 38 := fun z => q44_38 (Int32.toInt_inj.mp z)
                                                                                                      have e39 : ¬ ((xs x5.toNatClampNeg) &&& (63 : Int32)).toInt = 39 := fun z => q44_39 (Int32.toInt_inj.mp z)
                                                                                                      have e40 : ¬ ((xs x5.toNatClampNeg) &&& (63 : Int32)).toInt = 40 := fun z => q44_40 (Int32.toInt_inj.mp z)
                                                                                                      have e41 : ¬ ((xs x5.toNatClampNeg) &&& (63 : Int32)).toInt = 41 := fun z => q44_41 (Int32.toInt_inj.mp z)
                                                                                                      have e42 : ¬ ((xs x5.toNatClampNeg) &&& (63 : Int32)).toInt = 42 := fun z => q44_42 (Int32.toInt_inj.mp z)
                                                                                                      have e43 : ¬ ((xs x5.toNatClampNeg) &&& (63 : Int32)).toInt = 43 := fun z => q44_43 (Int32.toInt_inj.mp z)
                                                                                                      have e44 : ¬ ((xs x5.toNatClampNeg) &&& (63 : Int32)).toInt = 44 := fun z => q44_44 (Int32.toInt_inj.mp z)
                                                                                                      have e45 : ¬ ((xs x5.toNatClampNeg) &&& (63 : Int32)).toInt = 45 := fun z => q44_45 (Int32.toInt_inj.mp z)
                                                                                                      have e46 : ¬ ((xs x5.toNatClampNeg) &&& (63 : Int32)).toInt = 46 := fun z => q44_46 (Int32.toInt_inj.mp z)
                                                                                                      omega
                                                                                                    refine lv_tableOut (tgt := 2765) hx hb dL_law_44 hsw (by decide) ?_
                                                                                                    refine lv_iinc (v := (x5 + (5 : Int32))) (lv' := [(5, .int (x5 + (5 : Int32))), (0, .ref b), (1, .ref (fw_ad E 0 10)), (2, .ref (fw_ad E 0 18)), (3, .ref (fw_ad E 0 27)), (4, .ref (fw_ad E 0 28))]) hx hb dL_law_2765 hl (k := 5) rfl rfl (by decide) rfl (fun ls hl => ?_)
                                                                                                    refine lv_goto (tgt := 28) hx hb dL_law_2768 (by decide) ?_
                                                                                                    exact ih _ _ _ _ H locs ls _ _ h hP hS (lv_sub hl [1, 2, 3, 4, 5, 0] rfl) (by omega) (by omega)
