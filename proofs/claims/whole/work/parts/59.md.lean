/-! the mathematics, 23: carrying out -/
def mp_do (kk x y z : Nat) (b : fw_M) : Option (fw_M × Int32) := if kk = 0 then f_X10_brings b (nI x) (nI 1) (nI y) (nI z) else if kk = 1 then f_X10_brings b (nI x) (nI 0) (nI y) (nI z) else if kk = 2 then f_X10_loads b (nI x) (nI y) else if kk = 3 then f_X10_takes b (nI x) else if kk = 4 then f_X10_heats b (nI x) (nI (2 * y)) else f_X10_washesAll b (nI x)
theorem mt_pair {r : Option (fw_M × Int32)} : fw_b2 r (fun m v => some (m, v)) = r := by
  cases r with
  | none => rfl
  | some q => rfl
section PD
variable {σ : Nat → Nat} {B : Nat}
theorem mp_does {b : fw_M} {i kk x y z : Nat} (hi : i < 12) (hk : kk < 6) (h : mp_row b i kk x y z) : f_X10_does b (nI i) = mp_do kk x y z b := by
  obtain ⟨h0, h1, h2, h3⟩ := h
  have hc : kk = 0 ∨ kk = 1 ∨ kk = 2 ∨ kk = 3 ∨ kk = 4 ∨ kk = 5 := by omega
  rcases hc with rfl | rfl | rfl | rfl | rfl | rfl
  · have g0 : b 0 24 (4 * i) = nI 115 := h0
    have g2 := h2 (by decide)
    have g3 := h3 (by decide)
    simp (discharger := omega) only [f_X10_does, mp_do, nI_add, mt_mul, nI_clamp, nI_leI, nI_ltI, nI_eq, mt_in_t, mt_b1, mt_b2, mt_b3, mt_b4, mt_l, mt_g, ↓reduceIte, Nat.reduceEqDiff, Nat.reduceLeDiff, ml_0, ml_1, ml_2, ml_3, ml_4, ml_5, ml_6, ml_7, ml_8, ml_9, ml_10, ml_11, ml_12, ml_13, ml_14, ml_16, ml_31, ml_32, ml_40, ml_42, ml_48, ml_50, ml_57, ml_59, ml_60, ml_63, ml_98, ml_100, ml_103, ml_104, ml_105, ml_106, ml_107, ml_108, ml_109, ml_110, ml_111, ml_112, ml_113, ml_114, ml_115, ml_120, ml_127, ml_176, ml_180, ml_200, ml_254, ml_255, ml_256, ml_300, ml_728, ml_832, ml_65536, g0, h1, g2, g3, mt_pair]
  · have g0 : b 0 24 (4 * i) = nI 103 := h0
    have g2 := h2 (by decide)
    have g3 := h3 (by decide)
    simp (discharger := omega) only [f_X10_does, mp_do, nI_add, mt_mul, nI_clamp, nI_leI, nI_ltI, nI_eq, mt_in_t, mt_b1, mt_b2, mt_b3, mt_b4, mt_l, mt_g, ↓reduceIte, Nat.reduceEqDiff, Nat.reduceLeDiff, ml_0, ml_1, ml_2, ml_3, ml_4, ml_5, ml_6, ml_7, ml_8, ml_9, ml_10, ml_11, ml_12, ml_13, ml_14, ml_16, ml_31, ml_32, ml_40, ml_42, ml_48, ml_50, ml_57, ml_59, ml_60, ml_63, ml_98, ml_100, ml_103, ml_104, ml_105, ml_106, ml_107, ml_108, ml_109, ml_110, ml_111, ml_112, ml_113, ml_114, ml_115, ml_120, ml_127, ml_176, ml_180, ml_200, ml_254, ml_255, ml_256, ml_300, ml_728, ml_832, ml_65536, g0, h1, g2, g3, mt_pair, Nat.one_ne_zero]
  · have g0 : b 0 24 (4 * i) = nI 108 := h0
    have g2 := h2 (by decide)
    simp (discharger := omega) only [f_X10_does, mp_do, nI_add, mt_mul, nI_clamp, nI_leI, nI_ltI, nI_eq, mt_in_t, mt_b1, mt_b2, mt_b3, mt_b4, mt_l, mt_g, ↓reduceIte, Nat.reduceEqDiff, Nat.reduceLeDiff, ml_0, ml_1, ml_2, ml_3, ml_4, ml_5, ml_6, ml_7, ml_8, ml_9, ml_10, ml_11, ml_12, ml_13, ml_14, ml_16, ml_31, ml_32, ml_40, ml_42, ml_48, ml_50, ml_57, ml_59, ml_60, ml_63, ml_98, ml_100, ml_103, ml_104, ml_105, ml_106, ml_107, ml_108, ml_109, ml_110, ml_111, ml_112, ml_113, ml_114, ml_115, ml_120, ml_127, ml_176, ml_180, ml_200, ml_254, ml_255, ml_256, ml_300, ml_728, ml_832, ml_65536, g0, h1, g2, mt_pair]
  · have g0 : b 0 24 (4 * i) = nI 111 := h0
    simp (discharger := omega) only [f_X10_does, mp_do, nI_add, mt_mul, nI_clamp, nI_leI, nI_ltI, nI_eq, mt_in_t, mt_b1, mt_b2, mt_b3, mt_b4, mt_l, mt_g, ↓reduceIte, Nat.reduceEqDiff, Nat.reduceLeDiff, ml_0, ml_1, ml_2, ml_3, ml_4, ml_5, ml_6, ml_7, ml_8, ml_9, ml_10, ml_11, ml_12, ml_13, ml_14, ml_16, ml_31, ml_32, ml_40, ml_42, ml_48, ml_50, ml_57, ml_59, ml_60, ml_63, ml_98, ml_100, ml_103, ml_104, ml_105, ml_106, ml_107, ml_108, ml_109, ml_110, ml_111, ml_112, ml_113, ml_114, ml_115, ml_120, ml_127, ml_176, ml_180, ml_200, ml_254, ml_255, ml_256, ml_300, ml_728, ml_832, ml_65536, g0, h1, mt_pair]
  · have g0 : b 0 24 (4 * i) = nI 104 := h0
    have g2 := h2 (by decide)
    simp (discharger := omega) only [f_X10_does, mp_do, nI_add, mt_mul, nI_clamp, nI_leI, nI_ltI, nI_eq, mt_in_t, mt_b1, mt_b2, mt_b3, mt_b4, mt_l, mt_g, ↓reduceIte, Nat.reduceEqDiff, Nat.reduceLeDiff, ml_0, ml_1, ml_2, ml_3, ml_4, ml_5, ml_6, ml_7, ml_8, ml_9, ml_10, ml_11, ml_12, ml_13, ml_14, ml_16, ml_31, ml_32, ml_40, ml_42, ml_48, ml_50, ml_57, ml_59, ml_60, ml_63, ml_98, ml_100, ml_103, ml_104, ml_105, ml_106, ml_107, ml_108, ml_109, ml_110, ml_111, ml_112, ml_113, ml_114, ml_115, ml_120, ml_127, ml_176, ml_180, ml_200, ml_254, ml_255, ml_256, ml_300, ml_728, ml_832, ml_65536, g0, h1, g2, mt_pair]
  · have g0 : b 0 24 (4 * i) = nI 114 := h0
    simp (discharger := omega) only [f_X10_does, mp_do, nI_add, mt_mul, nI_clamp, nI_leI, nI_ltI, nI_eq, mt_in_t, mt_b1, mt_b2, mt_b3, mt_b4, mt_l, mt_g, ↓reduceIte, Nat.reduceEqDiff, Nat.reduceLeDiff, ml_0, ml_1, ml_2, ml_3, ml_4, ml_5, ml_6, ml_7, ml_8, ml_9, ml_10, ml_11, ml_12, ml_13, ml_14, ml_16, ml_31, ml_32, ml_40, ml_42, ml_48, ml_50, ml_57, ml_59, ml_60, ml_63, ml_98, ml_100, ml_103, ml_104, ml_105, ml_106, ml_107, ml_108, ml_109, ml_110, ml_111, ml_112, ml_113, ml_114, ml_115, ml_120, ml_127, ml_176, ml_180, ml_200, ml_254, ml_255, ml_256, ml_300, ml_728, ml_832, ml_65536, g0, h1, mt_pair]
/-- one command is carried out on both sides, or refused on both sides -/
def mp_D (σ : Nat → Nat) (B : Nat) (c : fw_M) (X : Option Int32) (Y : Option (fw_M × Unit)) (R : fw_M → Option (fw_M × Int32)) : Prop := (∃ σ' a xx, mt_ok (B + 1) σ' ∧ X = some (nI 0) ∧ Y = some (a, ()) ∧ mt_C a 0 σ' ∧ mt_fr (mt_sC 0) c a ∧ mt_op σ σ' xx R) ∨ ∃ r t, 0 < r ∧ r < 5 ∧ 0 < t ∧ t < 5 ∧ X = some (nI r) ∧ ∀ b, mt_M b 19 0 σ → R b = some (b, nI t)
theorem mp_do1 {c : fw_M} {i kk x y z : Nat} (hi : i < 12) (hC : mt_C c 0 σ) (hok : mt_ok B σ) (hB : B < 131072) (hk : kk < 6) (hx : x < 1000) (hy : y < 1000) (hz : z < 1000) (h : mp_crow c i kk x y z) : mp_D σ B c (f_X9_faultOf c i) (f_X9_carryOut c i) (mp_do kk x y z) := by
  obtain ⟨h0, h1, h2, h3⟩ := h
  have h16 := hok.1.1
  have hM0 : mt_M (fun _ _ w => nI (σ w)) 19 0 σ := fun w hw => by rw [Nat.zero_add]
  have bring : ∀ s, s < 2 → kk = 1 - s → mp_D σ B c (f_X9_faultOf c i) (f_X9_carryOut c i) (fun b => f_X10_brings b (nI x) (nI s) (nI y) (nI z)) := by
    intro s hs hks
    have hc2 : s = 0 ∨ s = 1 := by omega
    rcases mt_bringArgs c hC h16 (nI x) (nI y) (nI z) with ⟨q, d, u, hq, hd, hu, hn, e1, e2, e3, e0⟩ | ⟨r, u, hru, e0, e1⟩
    · obtain ⟨a, ea, Ca, Fa⟩ := mc_addGarment (c := q) (s := s) (d := d) (t := u) hC hn hs
      rw [← e1, ← e2, ← e3] at ea
      refine Or.inl ⟨ms_add σ q s d u, a, σ 0, mt_ok_m (ms_add_ok hok hn hq hs hd hu) (Nat.le_succ B), ?_, ?_, Ca, Fa, ?_⟩
      · rcases hc2 with rfl | rfl
        · rw [show kk = 1 by omega] at h0
          simp (discharger := omega) only [f_X9_faultOf, f_X9_faultOf_J20, nI_add, mt_mul, nI_clamp, nI_leI, nI_ltI, nI_eq, mt_in_t, mt_b1, mt_b2, mt_b3, mt_b4, mt_l, mt_g, ↓reduceIte, Nat.reduceEqDiff, Nat.reduceLeDiff, ml_0, ml_1, ml_2, ml_3, ml_4, ml_5, ml_6, ml_7, ml_8, ml_9, ml_10, ml_11, ml_12, ml_13, ml_14, ml_16, ml_31, ml_32, ml_40, ml_42, ml_48, ml_50, ml_57, ml_59, ml_60, ml_63, ml_98, ml_100, ml_103, ml_104, ml_105, ml_106, ml_107, ml_108, ml_109, ml_110, ml_111, ml_112, ml_113, ml_114, ml_115, ml_120, ml_127, ml_176, ml_180, ml_200, ml_254, ml_255, ml_256, ml_300, ml_728, ml_832, ml_65536, h0, h1, h2, h3, e0, Nat.one_ne_zero]
        · rw [show kk = 0 by omega] at h0
          simp (discharger := omega) only [f_X9_faultOf, f_X9_faultOf_J20, nI_add, mt_mul, nI_clamp, nI_leI, nI_ltI, nI_eq, mt_in_t, mt_b1, mt_b2, mt_b3, mt_b4, mt_l, mt_g, ↓reduceIte, Nat.reduceEqDiff, Nat.reduceLeDiff, ml_0, ml_1, ml_2, ml_3, ml_4, ml_5, ml_6, ml_7, ml_8, ml_9, ml_10, ml_11, ml_12, ml_13, ml_14, ml_16, ml_31, ml_32, ml_40, ml_42, ml_48, ml_50, ml_57, ml_59, ml_60, ml_63, ml_98, ml_100, ml_103, ml_104, ml_105, ml_106, ml_107, ml_108, ml_109, ml_110, ml_111, ml_112, ml_113, ml_114, ml_115, ml_120, ml_127, ml_176, ml_180, ml_200, ml_254, ml_255, ml_256, ml_300, ml_728, ml_832, ml_65536, h0, h1, h2, h3, e0]
      · rcases hc2 with rfl | rfl
        · rw [show kk = 1 by omega] at h0
          simp (discharger := omega) only [f_X9_carryOut, f_X9_carryOut_J20, f_X9_carryOut_J35, nI_add, mt_mul, nI_clamp, nI_leI, nI_ltI, nI_eq, mt_in_t, mt_b1, mt_b2, mt_b3, mt_b4, mt_l, mt_g, ↓reduceIte, Nat.reduceEqDiff, Nat.reduceLeDiff, ml_0, ml_1, ml_2, ml_3, ml_4, ml_5, ml_6, ml_7, ml_8, ml_9, ml_10, ml_11, ml_12, ml_13, ml_14, ml_16, ml_31, ml_32, ml_40, ml_42, ml_48, ml_50, ml_57, ml_59, ml_60, ml_63, ml_98, ml_100, ml_103, ml_104, ml_105, ml_106, ml_107, ml_108, ml_109, ml_110, ml_111, ml_112, ml_113, ml_114, ml_115, ml_120, ml_127, ml_176, ml_180, ml_200, ml_254, ml_255, ml_256, ml_300, ml_728, ml_832, ml_65536, h0, h1, h2, h3, ea, Nat.one_ne_zero]
        · rw [show kk = 0 by omega] at h0
          simp (discharger := omega) only [f_X9_carryOut, f_X9_carryOut_J20, f_X9_carryOut_J35, nI_add, mt_mul, nI_clamp, nI_leI, nI_ltI, nI_eq, mt_in_t, mt_b1, mt_b2, mt_b3, mt_b4, mt_l, mt_g, ↓reduceIte, Nat.reduceEqDiff, Nat.reduceLeDiff, ml_0, ml_1, ml_2, ml_3, ml_4, ml_5, ml_6, ml_7, ml_8, ml_9, ml_10, ml_11, ml_12, ml_13, ml_14, ml_16, ml_31, ml_32, ml_40, ml_42, ml_48, ml_50, ml_57, ml_59, ml_60, ml_63, ml_98, ml_100, ml_103, ml_104, ml_105, ml_106, ml_107, ml_108, ml_109, ml_110, ml_111, ml_112, ml_113, ml_114, ml_115, ml_120, ml_127, ml_176, ml_180, ml_200, ml_254, ml_255, ml_256, ml_300, ml_728, ml_832, ml_65536, h0, h1, h2, h3, ea]
      · rw [e1, e2, e3]
        exact mr_brings hq hd hu hn
    · refine Or.inr ⟨r, u, by omega, by omega, by omega, by omega, ?_, fun b hb => e1 (nI s) b hb⟩
      have r0 : ¬ r = 0 := by omega
      have r5 : r < 5 := by omega
      rcases hc2 with rfl | rfl
      · rw [show kk = 1 by omega] at h0
        simp (discharger := omega) only [f_X9_faultOf, f_X9_faultOf_J20, nI_add, mt_mul, nI_clamp, nI_leI, nI_ltI, nI_eq, mt_in_t, mt_b1, mt_b2, mt_b3, mt_b4, mt_l, mt_g, ↓reduceIte, Nat.reduceEqDiff, Nat.reduceLeDiff, ml_0, ml_1, ml_2, ml_3, ml_4, ml_5, ml_6, ml_7, ml_8, ml_9, ml_10, ml_11, ml_12, ml_13, ml_14, ml_16, ml_31, ml_32, ml_40, ml_42, ml_48, ml_50, ml_57, ml_59, ml_60, ml_63, ml_98, ml_100, ml_103, ml_104, ml_105, ml_106, ml_107, ml_108, ml_109, ml_110, ml_111, ml_112, ml_113, ml_114, ml_115, ml_120, ml_127, ml_176, ml_180, ml_200, ml_254, ml_255, ml_256, ml_300, ml_728, ml_832, ml_65536, h0, h1, h2, h3, e0, r0, Nat.one_ne_zero]
      · rw [show kk = 0 by omega] at h0
        simp (discharger := omega) only [f_X9_faultOf, f_X9_faultOf_J20, nI_add, mt_mul, nI_clamp, nI_leI, nI_ltI, nI_eq, mt_in_t, mt_b1, mt_b2, mt_b3, mt_b4, mt_l, mt_g, ↓reduceIte, Nat.reduceEqDiff, Nat.reduceLeDiff, ml_0, ml_1, ml_2, ml_3, ml_4, ml_5, ml_6, ml_7, ml_8, ml_9, ml_10, ml_11, ml_12, ml_13, ml_14, ml_16, ml_31, ml_32, ml_40, ml_42, ml_48, ml_50, ml_57, ml_59, ml_60, ml_63, ml_98, ml_100, ml_103, ml_104, ml_105, ml_106, ml_107, ml_108, ml_109, ml_110, ml_111, ml_112, ml_113, ml_114, ml_115, ml_120, ml_127, ml_176, ml_180, ml_200, ml_254, ml_255, ml_256, ml_300, ml_728, ml_832, ml_65536, h0, h1, h2, h3, e0, r0]
  have hc : kk = 0 ∨ kk = 1 ∨ kk = 2 ∨ kk = 3 ∨ kk = 4 ∨ kk = 5 := by omega
  rcases hc with rfl | rfl | rfl | rfl | rfl | rfl
  · exact bring 1 (by decide) rfl
  · exact bring 0 (by decide) rfl
  · show mp_D σ B c (f_X9_faultOf c i) (f_X9_carryOut c i) (fun b => f_X10_loads b (nI x) (nI y))
    rcases mt_loadArgs hC hok (nI x) (nI y) hM0 with ⟨g, m, hg, hm, g0, g5, e1, e2, e0⟩ | ⟨r, u, hru, e0, e1⟩
    · obtain ⟨hok', hh⟩ := ms_load_ok hok hg hm g0 g5
      have C2 : mt_C (fw_u c 0 5 g (nI (m + 1))) 0 (ms_up σ (4 + 6 * g + 4) (m + 1)) := mt_C_up (j := 0) (w := 4) (v := m + 1) hC h16 hg (by decide)
      refine Or.inl ⟨_, _, _, mt_ok_m hok' (Nat.le_succ B), ?_, ?_, C2, mt_fr_u (mt_sC_t (by decide)), by rw [e1, e2]; exact mr_loads hok hg hm g0 g5⟩
      · rw [e1, e2] at e0
        rw [e1] at h1
        rw [e2] at h2
        simp (discharger := omega) only [f_X9_faultOf, f_X9_faultOf_J20, nI_add, mt_mul, nI_clamp, nI_leI, nI_ltI, nI_eq, mt_in_t, mt_b1, mt_b2, mt_b3, mt_b4, mt_l, mt_g, ↓reduceIte, Nat.reduceEqDiff, Nat.reduceLeDiff, ml_0, ml_1, ml_2, ml_3, ml_4, ml_5, ml_6, ml_7, ml_8, ml_9, ml_10, ml_11, ml_12, ml_13, ml_14, ml_16, ml_31, ml_32, ml_40, ml_42, ml_48, ml_50, ml_57, ml_59, ml_60, ml_63, ml_98, ml_100, ml_103, ml_104, ml_105, ml_106, ml_107, ml_108, ml_109, ml_110, ml_111, ml_112, ml_113, ml_114, ml_115, ml_120, ml_127, ml_176, ml_180, ml_200, ml_254, ml_255, ml_256, ml_300, ml_728, ml_832, ml_65536, h0, h1, h2, e0]
      · rw [e1] at h1
        rw [e2] at h2
        simp (discharger := omega) only [f_X9_carryOut, f_X9_carryOut_J20, f_X9_carryOut_J35, f_X7_putIntoMachine, Nat.add_comm 1, nI_add, mt_mul, nI_clamp, nI_leI, nI_ltI, nI_eq, mt_in_t, mt_b1, mt_b2, mt_b3, mt_b4, mt_l, mt_g, ↓reduceIte, Nat.reduceEqDiff, Nat.reduceLeDiff, ml_0, ml_1, ml_2, ml_3, ml_4, ml_5, ml_6, ml_7, ml_8, ml_9, ml_10, ml_11, ml_12, ml_13, ml_14, ml_16, ml_31, ml_32, ml_40, ml_42, ml_48, ml_50, ml_57, ml_59, ml_60, ml_63, ml_98, ml_100, ml_103, ml_104, ml_105, ml_106, ml_107, ml_108, ml_109, ml_110, ml_111, ml_112, ml_113, ml_114, ml_115, ml_120, ml_127, ml_176, ml_180, ml_200, ml_254, ml_255, ml_256, ml_300, ml_728, ml_832, ml_65536, h0, h1, h2]
    · unfold mt_rz at hru
      refine Or.inr ⟨r, u, by omega, by omega, by omega, by omega, ?_, e1⟩
      have r0 : ¬ r = 0 := by omega
      have r5 : r < 5 := by omega
      simp (discharger := omega) only [f_X9_faultOf, f_X9_faultOf_J20, nI_add, mt_mul, nI_clamp, nI_leI, nI_ltI, nI_eq, mt_in_t, mt_b1, mt_b2, mt_b3, mt_b4, mt_l, mt_g, ↓reduceIte, Nat.reduceEqDiff, Nat.reduceLeDiff, ml_0, ml_1, ml_2, ml_3, ml_4, ml_5, ml_6, ml_7, ml_8, ml_9, ml_10, ml_11, ml_12, ml_13, ml_14, ml_16, ml_31, ml_32, ml_40, ml_42, ml_48, ml_50, ml_57, ml_59, ml_60, ml_63, ml_98, ml_100, ml_103, ml_104, ml_105, ml_106, ml_107, ml_108, ml_109, ml_110, ml_111, ml_112, ml_113, ml_114, ml_115, ml_120, ml_127, ml_176, ml_180, ml_200, ml_254, ml_255, ml_256, ml_300, ml_728, ml_832, ml_65536, h0, h1, h2, e0, r0]
  · show mp_D σ B c (f_X9_faultOf c i) (f_X9_carryOut c i) (fun b => f_X10_takes b (nI x))
    rcases mt_takeArgs hC hok (nI x) hM0 with ⟨g, hg, g0, g3, e1, e0⟩ | ⟨r, u, hru, e0, e1⟩
    · have C2 : mt_C (fw_u c 0 5 g (nI 0)) 0 (ms_up σ (4 + 6 * g + 4) 0) := mt_C_up (j := 0) (w := 4) (v := 0) hC h16 hg (by decide)
      refine Or.inl ⟨_, _, _, mt_ok_m (ms_take_ok hok hg) (Nat.le_succ B), ?_, ?_, C2, mt_fr_u (mt_sC_t (by decide)), by rw [e1]; exact mr_takes hok hg g0 g3⟩
      · rw [e1] at e0 h1
        simp (discharger := omega) only [f_X9_faultOf, f_X9_faultOf_J20, nI_add, mt_mul, nI_clamp, nI_leI, nI_ltI, nI_eq, mt_in_t, mt_b1, mt_b2, mt_b3, mt_b4, mt_l, mt_g, ↓reduceIte, Nat.reduceEqDiff, Nat.reduceLeDiff, ml_0, ml_1, ml_2, ml_3, ml_4, ml_5, ml_6, ml_7, ml_8, ml_9, ml_10, ml_11, ml_12, ml_13, ml_14, ml_16, ml_31, ml_32, ml_40, ml_42, ml_48, ml_50, ml_57, ml_59, ml_60, ml_63, ml_98, ml_100, ml_103, ml_104, ml_105, ml_106, ml_107, ml_108, ml_109, ml_110, ml_111, ml_112, ml_113, ml_114, ml_115, ml_120, ml_127, ml_176, ml_180, ml_200, ml_254, ml_255, ml_256, ml_300, ml_728, ml_832, ml_65536, h0, h1, e0]
      · rw [e1] at h1
        have c4 : c 0 5 g = nI (σ (4 + 6 * g + 4)) := mt_C_g hC (w := 4) (by decide) hg
        have b4 := (hok.1.2 g hg).2.2.2.2
        simp (discharger := omega) only [f_X9_carryOut, f_X9_carryOut_J20, f_X9_carryOut_J35, f_X7_putBackIntoBag, nI_add, mt_mul, nI_clamp, nI_leI, nI_ltI, nI_eq, mt_in_t, mt_b1, mt_b2, mt_b3, mt_b4, mt_l, mt_g, ↓reduceIte, Nat.reduceEqDiff, Nat.reduceLeDiff, ml_0, ml_1, ml_2, ml_3, ml_4, ml_5, ml_6, ml_7, ml_8, ml_9, ml_10, ml_11, ml_12, ml_13, ml_14, ml_16, ml_31, ml_32, ml_40, ml_42, ml_48, ml_50, ml_57, ml_59, ml_60, ml_63, ml_98, ml_100, ml_103, ml_104, ml_105, ml_106, ml_107, ml_108, ml_109, ml_110, ml_111, ml_112, ml_113, ml_114, ml_115, ml_120, ml_127, ml_176, ml_180, ml_200, ml_254, ml_255, ml_256, ml_300, ml_728, ml_832, ml_65536, h0, h1, c4]
    · refine Or.inr ⟨r, u, by omega, by omega, by omega, by omega, ?_, e1⟩
      have r0 : ¬ r = 0 := by omega
      have r5 : r < 5 := by omega
      simp (discharger := omega) only [f_X9_faultOf, f_X9_faultOf_J20, nI_add, mt_mul, nI_clamp, nI_leI, nI_ltI, nI_eq, mt_in_t, mt_b1, mt_b2, mt_b3, mt_b4, mt_l, mt_g, ↓reduceIte, Nat.reduceEqDiff, Nat.reduceLeDiff, ml_0, ml_1, ml_2, ml_3, ml_4, ml_5, ml_6, ml_7, ml_8, ml_9, ml_10, ml_11, ml_12, ml_13, ml_14, ml_16, ml_31, ml_32, ml_40, ml_42, ml_48, ml_50, ml_57, ml_59, ml_60, ml_63, ml_98, ml_100, ml_103, ml_104, ml_105, ml_106, ml_107, ml_108, ml_109, ml_110, ml_111, ml_112, ml_113, ml_114, ml_115, ml_120, ml_127, ml_176, ml_180, ml_200, ml_254, ml_255, ml_256, ml_300, ml_728, ml_832, ml_65536, h0, h1, e0, r0]
  · show mp_D σ B c (f_X9_faultOf c i) (f_X9_carryOut c i) (fun b => f_X10_heats b (nI x) (nI (2 * y)))
    rcases mt_heatArgs (μ := c) (nI x) (nI (2 * y)) with ⟨m, v, hm, v1, v2, e1, e2, e0⟩ | ⟨r, u, hru, e0, e1⟩
    · have C2 := mt_C_uph (j := 0) (v := v) hC h16 hm
      refine Or.inl ⟨_, _, _, mt_ok_m (ms_heat_ok hok hm v1 v2) (Nat.le_succ B), ?_, ?_, C2, mt_fr_u (mt_sC_t (by decide)), by rw [e1, e2]; exact mr_heats hm v1 v2⟩
      · rw [e1] at h1
        rw [e1, e2] at e0
        simp (discharger := omega) only [f_X9_faultOf, f_X9_faultOf_J20, nI_add, mt_mul, nI_clamp, nI_leI, nI_ltI, nI_eq, mt_in_t, mt_b1, mt_b2, mt_b3, mt_b4, mt_l, mt_g, ↓reduceIte, Nat.reduceEqDiff, Nat.reduceLeDiff, ml_0, ml_1, ml_2, ml_3, ml_4, ml_5, ml_6, ml_7, ml_8, ml_9, ml_10, ml_11, ml_12, ml_13, ml_14, ml_16, ml_31, ml_32, ml_40, ml_42, ml_48, ml_50, ml_57, ml_59, ml_60, ml_63, ml_98, ml_100, ml_103, ml_104, ml_105, ml_106, ml_107, ml_108, ml_109, ml_110, ml_111, ml_112, ml_113, ml_114, ml_115, ml_120, ml_127, ml_176, ml_180, ml_200, ml_254, ml_255, ml_256, ml_300, ml_728, ml_832, ml_65536, h0, h1, h2, e0, e2]
      · rw [e1] at h1
        simp (discharger := omega) only [f_X9_carryOut, f_X9_carryOut_J20, f_X9_carryOut_J35, nI_add, mt_mul, nI_clamp, nI_leI, nI_ltI, nI_eq, mt_in_t, mt_b1, mt_b2, mt_b3, mt_b4, mt_l, mt_g, ↓reduceIte, Nat.reduceEqDiff, Nat.reduceLeDiff, ml_0, ml_1, ml_2, ml_3, ml_4, ml_5, ml_6, ml_7, ml_8, ml_9, ml_10, ml_11, ml_12, ml_13, ml_14, ml_16, ml_31, ml_32, ml_40, ml_42, ml_48, ml_50, ml_57, ml_59, ml_60, ml_63, ml_98, ml_100, ml_103, ml_104, ml_105, ml_106, ml_107, ml_108, ml_109, ml_110, ml_111, ml_112, ml_113, ml_114, ml_115, ml_120, ml_127, ml_176, ml_180, ml_200, ml_254, ml_255, ml_256, ml_300, ml_728, ml_832, ml_65536, h0, h1, h2, e2]
    · refine Or.inr ⟨r, u, by omega, by omega, by omega, by omega, ?_, fun b _ => e1 b⟩
      have r0 : ¬ r = 0 := by omega
      have r5 : r < 5 := by omega
      simp (discharger := omega) only [f_X9_faultOf, f_X9_faultOf_J20, nI_add, mt_mul, nI_clamp, nI_leI, nI_ltI, nI_eq, mt_in_t, mt_b1, mt_b2, mt_b3, mt_b4, mt_l, mt_g, ↓reduceIte, Nat.reduceEqDiff, Nat.reduceLeDiff, ml_0, ml_1, ml_2, ml_3, ml_4, ml_5, ml_6, ml_7, ml_8, ml_9, ml_10, ml_11, ml_12, ml_13, ml_14, ml_16, ml_31, ml_32, ml_40, ml_42, ml_48, ml_50, ml_57, ml_59, ml_60, ml_63, ml_98, ml_100, ml_103, ml_104, ml_105, ml_106, ml_107, ml_108, ml_109, ml_110, ml_111, ml_112, ml_113, ml_114, ml_115, ml_120, ml_127, ml_176, ml_180, ml_200, ml_254, ml_255, ml_256, ml_300, ml_728, ml_832, ml_65536, h0, h1, h2, e0, r0]
  · show mp_D σ B c (f_X9_faultOf c i) (f_X9_carryOut c i) (fun b => f_X10_washesAll b (nI x))
    rcases mt_runArgs hC hok (nI x) with ⟨m, hm, hne, e1, e0⟩ | ⟨r, u, hru, e0, e1⟩
    · obtain ⟨a, ea, Ca, Fa⟩ := mc_wash (j := 0) hC hok hB hm
      refine Or.inl ⟨_, _, _, ms_wash_ok hok hB hm, ?_, ?_, Ca, Fa, by rw [e1]; exact fun b hb => mr_washesAll hb hok hB hm hne⟩
      · rw [e1] at e0 h1
        simp (discharger := omega) only [f_X9_faultOf, f_X9_faultOf_J20, nI_add, mt_mul, nI_clamp, nI_leI, nI_ltI, nI_eq, mt_in_t, mt_b1, mt_b2, mt_b3, mt_b4, mt_l, mt_g, ↓reduceIte, Nat.reduceEqDiff, Nat.reduceLeDiff, ml_0, ml_1, ml_2, ml_3, ml_4, ml_5, ml_6, ml_7, ml_8, ml_9, ml_10, ml_11, ml_12, ml_13, ml_14, ml_16, ml_31, ml_32, ml_40, ml_42, ml_48, ml_50, ml_57, ml_59, ml_60, ml_63, ml_98, ml_100, ml_103, ml_104, ml_105, ml_106, ml_107, ml_108, ml_109, ml_110, ml_111, ml_112, ml_113, ml_114, ml_115, ml_120, ml_127, ml_176, ml_180, ml_200, ml_254, ml_255, ml_256, ml_300, ml_728, ml_832, ml_65536, h0, h1, e0]
      · rw [e1] at h1
        simp (discharger := omega) only [f_X9_carryOut, f_X9_carryOut_J20, f_X9_carryOut_J35, nI_add, mt_mul, nI_clamp, nI_leI, nI_ltI, nI_eq, mt_in_t, mt_b1, mt_b2, mt_b3, mt_b4, mt_l, mt_g, ↓reduceIte, Nat.reduceEqDiff, Nat.reduceLeDiff, ml_0, ml_1, ml_2, ml_3, ml_4, ml_5, ml_6, ml_7, ml_8, ml_9, ml_10, ml_11, ml_12, ml_13, ml_14, ml_16, ml_31, ml_32, ml_40, ml_42, ml_48, ml_50, ml_57, ml_59, ml_60, ml_63, ml_98, ml_100, ml_103, ml_104, ml_105, ml_106, ml_107, ml_108, ml_109, ml_110, ml_111, ml_112, ml_113, ml_114, ml_115, ml_120, ml_127, ml_176, ml_180, ml_200, ml_254, ml_255, ml_256, ml_300, ml_728, ml_832, ml_65536, h0, h1, ea]
    · refine Or.inr ⟨r, u, by omega, by omega, by omega, by omega, ?_, e1⟩
      have r0 : ¬ r = 0 := by omega
      have r5 : r < 5 := by omega
      simp (discharger := omega) only [f_X9_faultOf, f_X9_faultOf_J20, nI_add, mt_mul, nI_clamp, nI_leI, nI_ltI, nI_eq, mt_in_t, mt_b1, mt_b2, mt_b3, mt_b4, mt_l, mt_g, ↓reduceIte, Nat.reduceEqDiff, Nat.reduceLeDiff, ml_0, ml_1, ml_2, ml_3, ml_4, ml_5, ml_6, ml_7, ml_8, ml_9, ml_10, ml_11, ml_12, ml_13, ml_14, ml_16, ml_31, ml_32, ml_40, ml_42, ml_48, ml_50, ml_57, ml_59, ml_60, ml_63, ml_98, ml_100, ml_103, ml_104, ml_105, ml_106, ml_107, ml_108, ml_109, ml_110, ml_111, ml_112, ml_113, ml_114, ml_115, ml_120, ml_127, ml_176, ml_180, ml_200, ml_254, ml_255, ml_256, ml_300, ml_728, ml_832, ml_65536, h0, h1, e0, r0]
/-- the commands from i on -/
theorem mp_run {N : Nat} {K X Y Z : Nat → Nat} (hN : N ≤ 12) (hb : ∀ i, i < N → K i < 6 ∧ X i < 1000 ∧ Y i < 1000 ∧ Z i < 1000) : ∀ k i B σ c m, i + k = N → B + k < 131072 → k < m → mt_ok B σ → mt_C c 0 σ → c 0 13 4 = nI N → (∀ i, i < N → mp_crow c i (K i) (X i) (Y i) (Z i)) → (∃ σ' a, f_X9_carryOutUntilFault_L2 m c (nI i) = some (a, nI N) ∧ mt_C a 0 σ' ∧ mt_fr (mt_sC 0) c a ∧ mt_ok (B + k) σ' ∧ ∀ m' b, k < m' → mt_M b 19 0 σ → b 0 18 18 = nI N → (∀ i, i < N → mp_row b i (K i) (X i) (Y i) (Z i)) → ∃ a', f_X10_runCommands_L104 m' b (nI i) = f_X10_changed a' (nI N) ∧ mt_M a' 19 0 σ' ∧ mt_fr mt_sW b a' ∧ ∀ q, q ≠ 15 → a' 0 18 q = b 0 18 q) ∨ (∃ f a, f < N ∧ f_X9_carryOutUntilFault_L2 m c (nI i) = some (a, nI f) ∧ mt_fr (mt_sC 0) c a ∧ ∀ m' b, k < m' → mt_M b 19 0 σ → b 0 18 18 = nI N → (∀ i, i < N → mp_row b i (K i) (X i) (Y i) (Z i)) → ∃ a', f_X10_runCommands_L104 m' b (nI i) = f_X10_runCommands_L125 1000 a' (nI f) (nI 0) ∧ mt_fr mt_sW b a' ∧ ∀ q, q ≠ 15 → a' 0 18 q = b 0 18 q) := by
  intro k
  induction k with
  | zero =>
    intro i B σ c m hik hB hm hok hC h4 hrows
    obtain ⟨m, rfl⟩ : ∃ m', m = m' + 1 := ⟨m - 1, by omega⟩
    have hi : i = N := by omega
    subst hi
    refine Or.inl ⟨σ, c, ?_, hC, mt_fr_r, hok, fun m' b hm' hM h18 hr => ⟨b, ?_, hM, mt_fr_r, fun q _ => rfl⟩⟩
    · simp (discharger := omega) only [f_X9_carryOutUntilFault_L2, nI_add, mt_mul, nI_clamp, nI_leI, nI_ltI, nI_eq, mt_in_t, mt_b1, mt_b2, mt_b3, mt_b4, mt_l, mt_g, ↓reduceIte, Nat.reduceEqDiff, Nat.reduceLeDiff, ml_0, ml_1, ml_2, ml_3, ml_4, ml_5, ml_6, ml_7, ml_8, ml_9, ml_10, ml_11, ml_12, ml_13, ml_14, ml_16, ml_31, ml_32, ml_40, ml_42, ml_48, ml_50, ml_57, ml_59, ml_60, ml_63, ml_98, ml_100, ml_103, ml_104, ml_105, ml_106, ml_107, ml_108, ml_109, ml_110, ml_111, ml_112, ml_113, ml_114, ml_115, ml_120, ml_127, ml_176, ml_180, ml_200, ml_254, ml_255, ml_256, ml_300, ml_728, ml_832, ml_65536, h4, Nat.le_refl]
    · obtain ⟨m', rfl⟩ : ∃ m'', m' = m'' + 1 := ⟨m' - 1, by omega⟩
      simp (discharger := omega) only [f_X10_runCommands_L104, nI_add, mt_mul, nI_clamp, nI_leI, nI_ltI, nI_eq, mt_in_t, mt_b1, mt_b2, mt_b3, mt_b4, mt_l, mt_g, ↓reduceIte, Nat.reduceEqDiff, Nat.reduceLeDiff, ml_0, ml_1, ml_2, ml_3, ml_4, ml_5, ml_6, ml_7, ml_8, ml_9, ml_10, ml_11, ml_12, ml_13, ml_14, ml_16, ml_31, ml_32, ml_40, ml_42, ml_48, ml_50, ml_57, ml_59, ml_60, ml_63, ml_98, ml_100, ml_103, ml_104, ml_105, ml_106, ml_107, ml_108, ml_109, ml_110, ml_111, ml_112, ml_113, ml_114, ml_115, ml_120, ml_127, ml_176, ml_180, ml_200, ml_254, ml_255, ml_256, ml_300, ml_728, ml_832, ml_65536, h18, Nat.le_refl, mt_pair]
  | succ k ih =>
    intro i B σ c m hik hB hm hok hC h4 hrows
    obtain ⟨m, rfl⟩ : ∃ m', m = m' + 1 := ⟨m - 1, by omega⟩
    have hiN : i < N := by omega
    have hi12 : i < 12 := by omega
    have nN : ¬ N ≤ i := by omega
    obtain ⟨b1, b2, b3, b4⟩ := hb i hiN
    rcases mp_do1 hi12 hC hok (by omega) b1 b2 b3 b4 (hrows i hiN) with ⟨σ', a, xx, hok', e, ed, Ca, Fa, hop⟩ | ⟨r, u, r0, r5, u0, u5, e, e1⟩
    · have ec : f_X9_carryOutUntilFault_L2 (m + 1) c (nI i) = f_X9_carryOutUntilFault_L2 m a (nI (i + 1)) := by
        simp (discharger := omega) only [f_X9_carryOutUntilFault_L2, nI_add, mt_mul, nI_clamp, nI_leI, nI_ltI, nI_eq, mt_in_t, mt_b1, mt_b2, mt_b3, mt_b4, mt_l, mt_g, ↓reduceIte, Nat.reduceEqDiff, Nat.reduceLeDiff, ml_0, ml_1, ml_2, ml_3, ml_4, ml_5, ml_6, ml_7, ml_8, ml_9, ml_10, ml_11, ml_12, ml_13, ml_14, ml_16, ml_31, ml_32, ml_40, ml_42, ml_48, ml_50, ml_57, ml_59, ml_60, ml_63, ml_98, ml_100, ml_103, ml_104, ml_105, ml_106, ml_107, ml_108, ml_109, ml_110, ml_111, ml_112, ml_113, ml_114, ml_115, ml_120, ml_127, ml_176, ml_180, ml_200, ml_254, ml_255, ml_256, ml_300, ml_728, ml_832, ml_65536, h4, nN, e, ed]
      have er : ∀ m' b, mt_M b 19 0 σ → b 0 18 18 = nI N → (∀ i, i < N → mp_row b i (K i) (X i) (Y i) (Z i)) → ∃ b', f_X10_runCommands_L104 (m' + 1) b (nI i) = f_X10_runCommands_L104 m' b' (nI (i + 1)) ∧ mt_M b' 19 0 σ' ∧ mt_fr mt_sW b b' ∧ (∀ q, q ≠ 15 → b' 0 18 q = b 0 18 q) ∧ b' 0 18 18 = nI N ∧ ∀ i, i < N → mp_row b' i (K i) (X i) (Y i) (Z i) := by
        intro m' b hM h18 hr
        obtain ⟨b', e2, M2, F2, x2, g2⟩ := hop b hM
        have e3 := mp_does hi12 b1 (hr i hiN)
        refine ⟨b', ?_, M2, F2, g2, by rw [g2 18 (by omega)]; exact h18, fun i' hi' => ?_⟩
        · simp (discharger := omega) only [f_X10_runCommands_L104, nI_add, mt_mul, nI_clamp, nI_leI, nI_ltI, nI_eq, mt_in_t, mt_b1, mt_b2, mt_b3, mt_b4, mt_l, mt_g, ↓reduceIte, Nat.reduceEqDiff, Nat.reduceLeDiff, ml_0, ml_1, ml_2, ml_3, ml_4, ml_5, ml_6, ml_7, ml_8, ml_9, ml_10, ml_11, ml_12, ml_13, ml_14, ml_16, ml_31, ml_32, ml_40, ml_42, ml_48, ml_50, ml_57, ml_59, ml_60, ml_63, ml_98, ml_100, ml_103, ml_104, ml_105, ml_106, ml_107, ml_108, ml_109, ml_110, ml_111, ml_112, ml_113, ml_114, ml_115, ml_120, ml_127, ml_176, ml_180, ml_200, ml_254, ml_255, ml_256, ml_300, ml_728, ml_832, ml_65536, h18, nN, e3, e2]
        · unfold mp_row
          rw [F2 0 24 (mt_sW_f (by omega))]
          exact hr i' hi'
      have fa9 : ∀ i, a i 9 = c i 9 := fun i => Fa i 9 (mt_sC_f (by omega))
      rcases ih (i + 1) (B + 1) σ' a m (by omega) (by omega) (by omega) hok' Ca (by rw [Fa 0 13 (mt_sC_f (by omega))]; exact h4) (fun i' hi' => by unfold mp_crow; rw [fa9 i']; exact hrows i' hi') with ⟨τ, a', E1, E2, E3, E4, E5⟩ | ⟨f, a', E0, E1, E3, E5⟩
      · refine Or.inl ⟨τ, a', ec.trans E1, E2, mt_fr_t Fa E3, by rw [show B + (k + 1) = B + 1 + k by omega]; exact E4, fun m' b hm' hM h18 hr => ?_⟩
        obtain ⟨m', rfl⟩ : ∃ m'', m' = m'' + 1 := ⟨m' - 1, by omega⟩
        obtain ⟨b', g1, g2, g3, g4, g5, g6⟩ := er m' b hM h18 hr
        obtain ⟨b'', k1, k2, k3, k4⟩ := E5 m' b' (by omega) g2 g5 g6
        exact ⟨b'', g1.trans k1, k2, mt_fr_t g3 k3, fun q hq => (k4 q hq).trans (g4 q hq)⟩
      · refine Or.inr ⟨f, a', E0, ec.trans E1, mt_fr_t Fa E3, fun m' b hm' hM h18 hr => ?_⟩
        obtain ⟨m', rfl⟩ : ∃ m'', m' = m'' + 1 := ⟨m' - 1, by omega⟩
        obtain ⟨b', g1, g2, g3, g4, g5, g6⟩ := er m' b hM h18 hr
        obtain ⟨b'', k1, k3, k4⟩ := E5 m' b' (by omega) g2 g5 g6
        exact ⟨b'', g1.trans k1, mt_fr_t g3 k3, fun q hq => (k4 q hq).trans (g4 q hq)⟩
    · have r1 : ¬ r = 0 := by omega
      have u1 : ¬ u = 0 := by omega
      refine Or.inr ⟨i, c, hiN, ?_, mt_fr_r, fun m' b hm' hM h18 hr => ⟨b, ?_, mt_fr_r, fun q _ => rfl⟩⟩
      · simp (discharger := omega) only [f_X9_carryOutUntilFault_L2, nI_add, mt_mul, nI_clamp, nI_leI, nI_ltI, nI_eq, mt_in_t, mt_b1, mt_b2, mt_b3, mt_b4, mt_l, mt_g, ↓reduceIte, Nat.reduceEqDiff, Nat.reduceLeDiff, ml_0, ml_1, ml_2, ml_3, ml_4, ml_5, ml_6, ml_7, ml_8, ml_9, ml_10, ml_11, ml_12, ml_13, ml_14, ml_16, ml_31, ml_32, ml_40, ml_42, ml_48, ml_50, ml_57, ml_59, ml_60, ml_63, ml_98, ml_100, ml_103, ml_104, ml_105, ml_106, ml_107, ml_108, ml_109, ml_110, ml_111, ml_112, ml_113, ml_114, ml_115, ml_120, ml_127, ml_176, ml_180, ml_200, ml_254, ml_255, ml_256, ml_300, ml_728, ml_832, ml_65536, h4, nN, e, r1]
      · obtain ⟨m', rfl⟩ : ∃ m'', m' = m'' + 1 := ⟨m' - 1, by omega⟩
        have e3 := mp_does hi12 b1 (hr i hiN)
        have e4 := e1 b hM
        simp (discharger := omega) only [f_X10_runCommands_L104, nI_add, mt_mul, nI_clamp, nI_leI, nI_ltI, nI_eq, mt_in_t, mt_b1, mt_b2, mt_b3, mt_b4, mt_l, mt_g, ↓reduceIte, Nat.reduceEqDiff, Nat.reduceLeDiff, ml_0, ml_1, ml_2, ml_3, ml_4, ml_5, ml_6, ml_7, ml_8, ml_9, ml_10, ml_11, ml_12, ml_13, ml_14, ml_16, ml_31, ml_32, ml_40, ml_42, ml_48, ml_50, ml_57, ml_59, ml_60, ml_63, ml_98, ml_100, ml_103, ml_104, ml_105, ml_106, ml_107, ml_108, ml_109, ml_110, ml_111, ml_112, ml_113, ml_114, ml_115, ml_120, ml_127, ml_176, ml_180, ml_200, ml_254, ml_255, ml_256, ml_300, ml_728, ml_832, ml_65536, h18, nN, e3, e4, u1]
end PD
