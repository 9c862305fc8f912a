/-! the mathematics, 18: undo, save, restore, feed, writeBag, outputChar, errorPosition, failedCommand -/
section PU
variable {μ : fw_M} {B : Nat}
theorem pc_undo (hR : mt_R B μ) : mt_A B Eq (fun k t => k = 3 ∧ t = 1) (f_X9_undo μ) (fun m => f_X10_undo m) := by
  obtain ⟨⟨σ, hC, hM, hok⟩, ⟨k, h, hk8, hHC, hHM, hHo⟩, hV, ⟨n, n60, T1, T2, T3⟩, ⟨v, v1, v2, v3⟩, ⟨w, w1, w2, w3⟩, ⟨m, m1, m2, m3, m4⟩⟩ := id hR
  obtain ⟨nw, hn, a1, a2, a3⟩ := hHC
  obtain ⟨b1, b2⟩ := hHM
  by_cases hk : k = 0
  · subst hk
    refine mt_A_no (k := 3) (t := 1) (r := nI 0) (r2 := nI 0) hR ?_ ?_ ⟨rfl, rfl⟩
    · simp (discharger := omega) only [f_X9_undo, nI_add, mt_mul, nI_clamp, nI_leI, nI_ltI, nI_eq, mt_in_t, mt_b1, mt_b2, mt_b3, mt_b4, mt_l, mt_g, ↓reduceIte, Nat.reduceEqDiff, Nat.reduceLeDiff, ml_0, ml_1, ml_2, ml_3, ml_4, ml_5, ml_6, ml_7, ml_8, ml_9, ml_10, ml_11, ml_12, ml_13, ml_14, ml_16, ml_31, ml_32, ml_40, ml_42, ml_48, ml_50, ml_57, ml_59, ml_60, ml_63, ml_98, ml_100, ml_103, ml_104, ml_105, ml_106, ml_107, ml_108, ml_109, ml_110, ml_111, ml_112, ml_113, ml_114, ml_115, ml_120, ml_127, ml_176, ml_180, ml_200, ml_254, ml_255, ml_256, ml_300, ml_728, ml_832, ml_65536, a2]
    · simp (discharger := omega) only [f_X10_undo, f_X10_fails, nI_add, mt_mul, nI_clamp, nI_leI, nI_ltI, nI_eq, mt_in_t, mt_b1, mt_b2, mt_b3, mt_b4, mt_l, mt_g, ↓reduceIte, Nat.reduceEqDiff, Nat.reduceLeDiff, ml_0, ml_1, ml_2, ml_3, ml_4, ml_5, ml_6, ml_7, ml_8, ml_9, ml_10, ml_11, ml_12, ml_13, ml_14, ml_16, ml_31, ml_32, ml_40, ml_42, ml_48, ml_50, ml_57, ml_59, ml_60, ml_63, ml_98, ml_100, ml_103, ml_104, ml_105, ml_106, ml_107, ml_108, ml_109, ml_110, ml_111, ml_112, ml_113, ml_114, ml_115, ml_120, ml_127, ml_176, ml_180, ml_200, ml_254, ml_255, ml_256, ml_300, ml_728, ml_832, ml_65536, mt_un, b1, mt_uu]
  · have hrow := a3 (k - 1) (by omega)
    rw [show 3 + (nw + 10 + (k - 1) - k) % 9 = 3 + nw by omega] at hrow
    have hτ := hHo (k - 1) (by omega)
    generalize hh : h (k - 1) = τ at hrow hτ
    obtain ⟨c, e1, C1, F1⟩ := mc_copyFrom (j0 := 0) (j1 := 3 + nw) (by omega) hrow hτ.1
    have c1 : c 0 11 1 = nI nw := by rw [F1 0 11 (mt_sC_f (by omega))]; exact a1
    have c2 : c 0 11 2 = nI k := by rw [F1 0 11 (mt_sC_f (by omega))]; exact a2
    have c3 : nI k - nI 1 = nI (k - 1) := mt_sub (by omega)
    have c4 : nw ≠ 0 → nI nw - nI 1 = nI (nw - 1) := fun z => mt_sub (by omega)
    have hX : f_X9_undo μ = some (fw_u (fw_u c 0 11 1 (nI ((nw + 8) % 9))) 0 11 2 (nI (k - 1)), nI (k - 1), 0) := by
      by_cases p : nw = 0
      · subst p
        show _ = some (fw_u (fw_u c 0 11 1 (nI 8)) 0 11 2 (nI (k - 1)), nI (k - 1), 0)
        simp (discharger := omega) only [f_X9_undo, f_X3_stepBack, nI_add, mt_mul, nI_clamp, nI_leI, nI_ltI, nI_eq, mt_in_t, mt_b1, mt_b2, mt_b3, mt_b4, mt_l, mt_g, ↓reduceIte, Nat.reduceEqDiff, Nat.reduceLeDiff, ml_0, ml_1, ml_2, ml_3, ml_4, ml_5, ml_6, ml_7, ml_8, ml_9, ml_10, ml_11, ml_12, ml_13, ml_14, ml_16, ml_31, ml_32, ml_40, ml_42, ml_48, ml_50, ml_57, ml_59, ml_60, ml_63, ml_98, ml_100, ml_103, ml_104, ml_105, ml_106, ml_107, ml_108, ml_109, ml_110, ml_111, ml_112, ml_113, ml_114, ml_115, ml_120, ml_127, ml_176, ml_180, ml_200, ml_254, ml_255, ml_256, ml_300, ml_728, ml_832, ml_65536, a2, hk, a1, e1, c1, c2, c3, mt_un, mt_uy]
      · have p2 : (nw + 8) % 9 = nw - 1 := by omega
        have c5 := c4 p
        simp (discharger := omega) only [f_X9_undo, f_X3_stepBack, nI_add, mt_mul, nI_clamp, nI_leI, nI_ltI, nI_eq, mt_in_t, mt_b1, mt_b2, mt_b3, mt_b4, mt_l, mt_g, ↓reduceIte, Nat.reduceEqDiff, Nat.reduceLeDiff, ml_0, ml_1, ml_2, ml_3, ml_4, ml_5, ml_6, ml_7, ml_8, ml_9, ml_10, ml_11, ml_12, ml_13, ml_14, ml_16, ml_31, ml_32, ml_40, ml_42, ml_48, ml_50, ml_57, ml_59, ml_60, ml_63, ml_98, ml_100, ml_103, ml_104, ml_105, ml_106, ml_107, ml_108, ml_109, ml_110, ml_111, ml_112, ml_113, ml_114, ml_115, ml_120, ml_127, ml_176, ml_180, ml_200, ml_254, ml_255, ml_256, ml_300, ml_728, ml_832, ml_65536, a2, hk, a1, e1, c1, c2, c3, c5, p, p2, mt_un, mt_uy]
    generalize hd : fw_u (fw_u c 0 11 1 (nI ((nw + 8) % 9))) 0 11 2 (nI (k - 1)) = d at hX
    have G : ∀ j f, ¬ (j = 0 ∧ (f < 9 ∨ f = 11)) → d j f = μ j f := fun j f q => by
      rw [← hd, fw_u_o (by omega), fw_u_o (by omega), F1 j f (mt_sC_f (by omega))]
    have Cd : mt_C d 0 τ := mt_C_k C1 (fun f hf => by rw [← hd, fw_u_o (by omega), fw_u_o (by omega)])
    have d1 : d 0 11 1 = nI ((nw + 8) % 9) := by rw [← hd, mt_un (by omega), mt_uy rfl]
    have d2 : d 0 11 2 = nI (k - 1) := by rw [← hd, mt_uy rfl]
    obtain ⟨e, ee, K1, K2, K3⟩ := mr_fill (μ := fw_u (fw_u d 0 18 0 (nI 0)) 0 18 5 (nI (k - 1))) (fun n a i => f_X10_undo_L30 n a i) (fd := 19) (od := 0) (N := 104) (fun i => nI (τ i)) (fun a => some (a, nI (k - 1))) (by decide) (fun n a q => by
      have q5 : a 0 18 5 = nI (k - 1) := by rw [q.1 0 18 (by omega), mt_uy rfl]
      simp (discharger := omega) only [f_X10_undo_L30, nI_add, mt_mul, nI_clamp, nI_leI, nI_ltI, nI_eq, mt_in_t, mt_b1, mt_b2, mt_b3, mt_b4, mt_l, mt_g, ↓reduceIte, Nat.reduceEqDiff, Nat.reduceLeDiff, ml_0, ml_1, ml_2, ml_3, ml_4, ml_5, ml_6, ml_7, ml_8, ml_9, ml_10, ml_11, ml_12, ml_13, ml_14, ml_16, ml_31, ml_32, ml_40, ml_42, ml_48, ml_50, ml_57, ml_59, ml_60, ml_63, ml_98, ml_100, ml_103, ml_104, ml_105, ml_106, ml_107, ml_108, ml_109, ml_110, ml_111, ml_112, ml_113, ml_114, ml_115, ml_120, ml_127, ml_176, ml_180, ml_200, ml_254, ml_255, ml_256, ml_300, ml_728, ml_832, ml_65536, q5, Nat.le_refl]) (fun n a i hi q => by
      have q5 : a 0 18 5 = nI (k - 1) := by rw [q.1 0 18 (by omega), mt_uy rfl]
      have q6 : a 0 22 (104 * (k - 1) + i) = nI (τ i) := by
        rw [q.1 0 22 (by omega), fw_u_o (by omega), fw_u_o (by omega), G 0 22 (by omega), b2 (k - 1) (by omega) i hi, hh]
      have hi' : ¬ 104 ≤ i := by omega
      simp (discharger := omega) only [f_X10_undo_L30, nI_add, mt_mul, nI_clamp, nI_leI, nI_ltI, nI_eq, mt_in_t, mt_b1, mt_b2, mt_b3, mt_b4, mt_l, mt_g, ↓reduceIte, Nat.reduceEqDiff, Nat.reduceLeDiff, ml_0, ml_1, ml_2, ml_3, ml_4, ml_5, ml_6, ml_7, ml_8, ml_9, ml_10, ml_11, ml_12, ml_13, ml_14, ml_16, ml_31, ml_32, ml_40, ml_42, ml_48, ml_50, ml_57, ml_59, ml_60, ml_63, ml_98, ml_100, ml_103, ml_104, ml_105, ml_106, ml_107, ml_108, ml_109, ml_110, ml_111, ml_112, ml_113, ml_114, ml_115, ml_120, ml_127, ml_176, ml_180, ml_200, ml_254, ml_255, ml_256, ml_300, ml_728, ml_832, ml_65536, hi', q5, q6, Nat.zero_add])
    have ee' : f_X10_undo_L30 1000 (fw_u (fw_u d 0 18 0 (nI 0)) 0 18 5 (nI (k - 1))) (nI 0) = some (e, nI (k - 1)) := ee
    have b1' : d 0 18 5 = nI k := by rw [G 0 18 (by omega)]; exact b1
    have GE : ∀ j f, ¬ (j = 0 ∧ (f < 9 ∨ f = 11 ∨ f = 18 ∨ f = 19)) → e j f = μ j f := fun j f q => by
      rw [K1 j f (by omega), fw_u_o (by omega), fw_u_o (by omega), G j f (by omega)]
    have g18 : ∀ i, i ≠ 0 → i ≠ 5 → e 0 18 i = μ 0 18 i := fun i q1 q2 => by
      rw [K1 0 18 (by omega), mt_un (by omega), mt_un (by omega), G 0 18 (by omega)]
    refine ⟨d, nI (k - 1), 0, e, nI (k - 1), 0, hX, ?_, ?_, ?_, Or.inl ⟨rfl, rfl, rfl⟩⟩
    · simp (discharger := omega) only [f_X10_undo, nI_add, mt_mul, nI_clamp, nI_leI, nI_ltI, nI_eq, mt_in_t, mt_b1, mt_b2, mt_b3, mt_b4, mt_l, mt_g, ↓reduceIte, Nat.reduceEqDiff, Nat.reduceLeDiff, ml_0, ml_1, ml_2, ml_3, ml_4, ml_5, ml_6, ml_7, ml_8, ml_9, ml_10, ml_11, ml_12, ml_13, ml_14, ml_16, ml_31, ml_32, ml_40, ml_42, ml_48, ml_50, ml_57, ml_59, ml_60, ml_63, ml_98, ml_100, ml_103, ml_104, ml_105, ml_106, ml_107, ml_108, ml_109, ml_110, ml_111, ml_112, ml_113, ml_114, ml_115, ml_120, ml_127, ml_176, ml_180, ml_200, ml_254, ml_255, ml_256, ml_300, ml_728, ml_832, ml_65536, mt_un, b1', hk, c3, ee']
    · rw [K1 0 18 (by omega), mt_un (by omega), mt_uy rfl]
    · refine ⟨⟨τ, mt_C_k Cd (fun f hf => by rw [K1 0 f (by omega), fw_u_o (by omega), fw_u_o (by omega)]), fun i hi => K2 i hi, hτ⟩, ⟨k - 1, h, by omega, ⟨(nw + 8) % 9, by omega, by rw [K1 0 11 (by omega), fw_u_o (by omega), fw_u_o (by omega)]; exact d1, by rw [K1 0 11 (by omega), fw_u_o (by omega), fw_u_o (by omega)]; exact d2, fun i hi => ?_⟩, ⟨by rw [K1 0 18 (by omega), mt_uy rfl], fun i hi => mt_M_k (b2 i (by omega)) (GE 0 22 (by omega))⟩, fun i hi => hHo i (by omega)⟩, ?_, ⟨n, n60, by rw [GE 0 13 (by omega)]; exact T1, by rw [g18 11 (by omega) (by omega)]; exact T2, by rw [GE 0 14 (by omega), GE 0 23 (by omega)]; exact T3⟩, ⟨v, v1, by rw [GE 0 10 (by omega)]; exact v2, by rw [g18 13 (by omega) (by omega)]; exact v3⟩, ⟨w, w1, by rw [GE 0 10 (by omega)]; exact w2, by rw [g18 14 (by omega) (by omega)]; exact w3⟩, ⟨m, m1, by rw [GE 0 16 (by omega)]; exact m2, by rw [g18 12 (by omega) (by omega)]; exact m3, by rw [GE 0 17 (by omega), GE 0 25 (by omega)]; exact m4⟩⟩
      · rw [show ((nw + 8) % 9 + 10 + i - (k - 1)) % 9 = (nw + 10 + i - k) % 9 by omega]
        exact mt_C_k (a3 i (by omega)) (fun f hf => GE _ f (by omega))
      · unfold mt_V
        rw [GE 0 10 (by omega), g18 6 (by omega) (by omega)]
        rcases hV with hV | ⟨va, vb, ρ, vc, vd, ve⟩
        · exact Or.inl hV
        · exact Or.inr ⟨va, vb, ρ, mt_C_k vc (fun f hf => GE 2 f (by omega)), mt_M_k vd (GE 0 21 (by omega)), ve⟩
theorem pc_save (hR : mt_R B μ) : ∃ a μ2 r, f_X9_save μ = some (a, r) ∧ f_X10_save a = some (μ2, r) ∧ mt_R B μ2 := by
  obtain ⟨⟨σ, hC, hM, hok⟩, ⟨k, h, hk8, hHC, hHM, hHo⟩, hV, ⟨n, n60, T1, T2, T3⟩, ⟨v, v1, v2, v3⟩, ⟨w, w1, w2, w3⟩, ⟨m, m1, m2, m3, m4⟩⟩ := id hR
  obtain ⟨c, e1, C1, F1⟩ := mc_copyFrom (j0 := 2) (j1 := 0) (by omega) hC hok.1
  have hX : f_X9_save μ = some (fw_u c 0 10 3 (nI 1), nI (σ 0)) := by
    have := C1.1
    simp (discharger := omega) only [f_X9_save, nI_add, mt_mul, nI_clamp, nI_leI, nI_ltI, nI_eq, mt_in_t, mt_b1, mt_b2, mt_b3, mt_b4, mt_l, mt_g, ↓reduceIte, Nat.reduceEqDiff, Nat.reduceLeDiff, ml_0, ml_1, ml_2, ml_3, ml_4, ml_5, ml_6, ml_7, ml_8, ml_9, ml_10, ml_11, ml_12, ml_13, ml_14, ml_16, ml_31, ml_32, ml_40, ml_42, ml_48, ml_50, ml_57, ml_59, ml_60, ml_63, ml_98, ml_100, ml_103, ml_104, ml_105, ml_106, ml_107, ml_108, ml_109, ml_110, ml_111, ml_112, ml_113, ml_114, ml_115, ml_120, ml_127, ml_176, ml_180, ml_200, ml_254, ml_255, ml_256, ml_300, ml_728, ml_832, ml_65536, e1, mt_un, this]
  have Md : mt_M (fw_u c 0 10 3 (nI 1)) 19 0 σ := mt_M_k hM (by rw [fw_u_o (by omega), F1 0 19 (mt_sC_f (by omega))])
  generalize hd : fw_u c 0 10 3 (nI 1) = d at hX Md
  have G : ∀ j f, ¬ (j = 2 ∧ f < 9) → ¬ (j = 0 ∧ f = 10) → d j f = μ j f := fun j f q q2 => by
    rw [← hd, fw_u_o (by omega), F1 j f (mt_sC_f (by omega))]
  have Cd : mt_C d 2 σ := mt_C_k C1 (fun f hf => by rw [← hd, fw_u_o (by omega)])
  have d3 : d 0 10 3 = nI 1 := by rw [← hd, mt_uy rfl]
  have d10 : ∀ i, i ≠ 3 → d 0 10 i = μ 0 10 i := fun i hi => by rw [← hd, mt_un (by omega), F1 0 10 (mt_sC_f (by omega))]
  obtain ⟨e, ee, K1, K2, K3⟩ := mr_fill (μ := fw_u d 0 18 0 (nI 0)) (fun n a i => f_X10_save_L7 n a i) (fd := 21) (od := 0) (N := 104) (fun i => nI (σ i)) (fun a => some (fw_u a 0 18 6 (nI 1), nI (σ 0))) (by decide) (fun n a q => by
    have q5 : a 0 19 0 = nI (σ 0) := by rw [q.1 0 19 (by omega), fw_u_o (by omega)]; exact mt_at Md (by decide)
    simp (discharger := omega) only [f_X10_save_L7, nI_add, mt_mul, nI_clamp, nI_leI, nI_ltI, nI_eq, mt_in_t, mt_b1, mt_b2, mt_b3, mt_b4, mt_l, mt_g, ↓reduceIte, Nat.reduceEqDiff, Nat.reduceLeDiff, ml_0, ml_1, ml_2, ml_3, ml_4, ml_5, ml_6, ml_7, ml_8, ml_9, ml_10, ml_11, ml_12, ml_13, ml_14, ml_16, ml_31, ml_32, ml_40, ml_42, ml_48, ml_50, ml_57, ml_59, ml_60, ml_63, ml_98, ml_100, ml_103, ml_104, ml_105, ml_106, ml_107, ml_108, ml_109, ml_110, ml_111, ml_112, ml_113, ml_114, ml_115, ml_120, ml_127, ml_176, ml_180, ml_200, ml_254, ml_255, ml_256, ml_300, ml_728, ml_832, ml_65536, mt_un, q5, Nat.le_refl]) (fun n a i hi q => by
    have q5 : a 0 19 i = nI (σ i) := by rw [q.1 0 19 (by omega), fw_u_o (by omega)]; exact mt_at Md hi
    have hi' : ¬ 104 ≤ i := by omega
    simp (discharger := omega) only [f_X10_save_L7, nI_add, mt_mul, nI_clamp, nI_leI, nI_ltI, nI_eq, mt_in_t, mt_b1, mt_b2, mt_b3, mt_b4, mt_l, mt_g, ↓reduceIte, Nat.reduceEqDiff, Nat.reduceLeDiff, ml_0, ml_1, ml_2, ml_3, ml_4, ml_5, ml_6, ml_7, ml_8, ml_9, ml_10, ml_11, ml_12, ml_13, ml_14, ml_16, ml_31, ml_32, ml_40, ml_42, ml_48, ml_50, ml_57, ml_59, ml_60, ml_63, ml_98, ml_100, ml_103, ml_104, ml_105, ml_106, ml_107, ml_108, ml_109, ml_110, ml_111, ml_112, ml_113, ml_114, ml_115, ml_120, ml_127, ml_176, ml_180, ml_200, ml_254, ml_255, ml_256, ml_300, ml_728, ml_832, ml_65536, hi', q5, Nat.zero_add])
  have ee' : f_X10_save_L7 1000 (fw_u d 0 18 0 (nI 0)) (nI 0) = some (fw_u e 0 18 6 (nI 1), nI (σ 0)) := ee
  have GE : ∀ j f, ¬ (j = 2 ∧ f < 9) → ¬ (j = 0 ∧ (f = 10 ∨ f = 18 ∨ f = 21)) → fw_u e 0 18 6 (nI 1) j f = μ j f := fun j f q q2 => by
    rw [fw_u_o (by omega), K1 j f (by omega), fw_u_o (by omega), G j f q (by omega)]
  have g18 : ∀ i, i ≠ 0 → i ≠ 6 → fw_u e 0 18 6 (nI 1) 0 18 i = μ 0 18 i := fun i q1 q2 => by
    rw [mt_un (by omega), K1 0 18 (by omega), mt_un (by omega), G 0 18 (by omega) (by omega)]
  have g10 : ∀ i, i ≠ 3 → fw_u e 0 18 6 (nI 1) 0 10 i = μ 0 10 i := fun i q1 => by
    rw [mt_un (by omega), K1 0 10 (by omega), fw_u_o (by omega), d10 i q1]
  refine ⟨d, fw_u e 0 18 6 (nI 1), nI (σ 0), hX, ?_, ?_⟩
  · simp (discharger := omega) only [f_X10_save, nI_add, mt_mul, nI_clamp, nI_leI, nI_ltI, nI_eq, mt_in_t, mt_b1, mt_b2, mt_b3, mt_b4, mt_l, mt_g, ↓reduceIte, Nat.reduceEqDiff, Nat.reduceLeDiff, ml_0, ml_1, ml_2, ml_3, ml_4, ml_5, ml_6, ml_7, ml_8, ml_9, ml_10, ml_11, ml_12, ml_13, ml_14, ml_16, ml_31, ml_32, ml_40, ml_42, ml_48, ml_50, ml_57, ml_59, ml_60, ml_63, ml_98, ml_100, ml_103, ml_104, ml_105, ml_106, ml_107, ml_108, ml_109, ml_110, ml_111, ml_112, ml_113, ml_114, ml_115, ml_120, ml_127, ml_176, ml_180, ml_200, ml_254, ml_255, ml_256, ml_300, ml_728, ml_832, ml_65536, ee']
  · refine ⟨⟨σ, mt_C_k hC (fun f hf => GE 0 f (by omega) (by omega)), mt_M_k hM (GE 0 19 (by omega) (by omega)), hok⟩, ⟨k, h, hk8, mt_HC_s hHC (fun j f hf hj => GE j f (by omega) (by omega)) (GE 0 11 (by omega) (by omega)), mt_HM_s hHM (g18 5 (by omega) (by omega)) (GE 0 22 (by omega) (by omega)), hHo⟩, Or.inr ⟨?_, mt_uy rfl, σ, mt_C_k Cd (fun f hf => by rw [fw_u_o (by omega), K1 2 f (by omega), fw_u_o (by omega)]), fun i hi => ?_, hok⟩, ⟨n, n60, by rw [GE 0 13 (by omega) (by omega)]; exact T1, by rw [g18 11 (by omega) (by omega)]; exact T2, by rw [GE 0 14 (by omega) (by omega), GE 0 23 (by omega) (by omega)]; exact T3⟩, ⟨v, v1, by rw [g10 7 (by omega)]; exact v2, by rw [g18 13 (by omega) (by omega)]; exact v3⟩, ⟨w, w1, by rw [g10 8 (by omega)]; exact w2, by rw [g18 14 (by omega) (by omega)]; exact w3⟩, ⟨m, m1, by rw [GE 0 16 (by omega) (by omega)]; exact m2, by rw [g18 12 (by omega) (by omega)]; exact m3, by rw [GE 0 17 (by omega) (by omega), GE 0 25 (by omega) (by omega)]; exact m4⟩⟩
    · rw [fw_u_o (by omega), K1 0 10 (by omega), fw_u_o (by omega)]
      exact d3
    · rw [fw_u_o (by omega)]
      exact K2 i hi
theorem pc_restore (hR : mt_R B μ) : mt_A B Eq (fun k t => k = 3 ∧ t = 1) (f_X9_restore μ) (fun m => f_X10_restore m) := by
  obtain ⟨⟨σ, hC, hM, hok⟩, ⟨k, h, hk8, hHC, hHM, hHo⟩, hV, ⟨n, n60, T1, T2, T3⟩, ⟨v, v1, v2, v3⟩, ⟨w, w1, w2, w3⟩, ⟨m, m1, m2, m3, m4⟩⟩ := id hR
  rcases hV with ⟨p1, p2⟩ | ⟨p1, p2, τ, C2, M2, hτ⟩
  · refine mt_A_no (k := 3) (t := 1) (r := nI 0) (r2 := nI 0) hR ?_ ?_ ⟨rfl, rfl⟩
    · simp (discharger := omega) only [f_X9_restore, nI_add, mt_mul, nI_clamp, nI_leI, nI_ltI, nI_eq, mt_in_t, mt_b1, mt_b2, mt_b3, mt_b4, mt_l, mt_g, ↓reduceIte, Nat.reduceEqDiff, Nat.reduceLeDiff, ml_0, ml_1, ml_2, ml_3, ml_4, ml_5, ml_6, ml_7, ml_8, ml_9, ml_10, ml_11, ml_12, ml_13, ml_14, ml_16, ml_31, ml_32, ml_40, ml_42, ml_48, ml_50, ml_57, ml_59, ml_60, ml_63, ml_98, ml_100, ml_103, ml_104, ml_105, ml_106, ml_107, ml_108, ml_109, ml_110, ml_111, ml_112, ml_113, ml_114, ml_115, ml_120, ml_127, ml_176, ml_180, ml_200, ml_254, ml_255, ml_256, ml_300, ml_728, ml_832, ml_65536, p1]
    · simp (discharger := omega) only [f_X10_restore, f_X10_fails, nI_add, mt_mul, nI_clamp, nI_leI, nI_ltI, nI_eq, mt_in_t, mt_b1, mt_b2, mt_b3, mt_b4, mt_l, mt_g, ↓reduceIte, Nat.reduceEqDiff, Nat.reduceLeDiff, ml_0, ml_1, ml_2, ml_3, ml_4, ml_5, ml_6, ml_7, ml_8, ml_9, ml_10, ml_11, ml_12, ml_13, ml_14, ml_16, ml_31, ml_32, ml_40, ml_42, ml_48, ml_50, ml_57, ml_59, ml_60, ml_63, ml_98, ml_100, ml_103, ml_104, ml_105, ml_106, ml_107, ml_108, ml_109, ml_110, ml_111, ml_112, ml_113, ml_114, ml_115, ml_120, ml_127, ml_176, ml_180, ml_200, ml_254, ml_255, ml_256, ml_300, ml_728, ml_832, ml_65536, mt_un, p2, mt_uu]
  · obtain ⟨c, e1, C1, F1⟩ := mc_copyFrom (j0 := 0) (j1 := 2) (by omega) C2 hτ.1
    have hX : f_X9_restore μ = some (fw_u c 0 11 2 (nI 0), nI (τ 0), 0) := by
      have := C1.1
      simp (discharger := omega) only [f_X9_restore, f_X3_forget, nI_add, mt_mul, nI_clamp, nI_leI, nI_ltI, nI_eq, mt_in_t, mt_b1, mt_b2, mt_b3, mt_b4, mt_l, mt_g, ↓reduceIte, Nat.reduceEqDiff, Nat.reduceLeDiff, ml_0, ml_1, ml_2, ml_3, ml_4, ml_5, ml_6, ml_7, ml_8, ml_9, ml_10, ml_11, ml_12, ml_13, ml_14, ml_16, ml_31, ml_32, ml_40, ml_42, ml_48, ml_50, ml_57, ml_59, ml_60, ml_63, ml_98, ml_100, ml_103, ml_104, ml_105, ml_106, ml_107, ml_108, ml_109, ml_110, ml_111, ml_112, ml_113, ml_114, ml_115, ml_120, ml_127, ml_176, ml_180, ml_200, ml_254, ml_255, ml_256, ml_300, ml_728, ml_832, ml_65536, p1, e1, mt_un, this]
    generalize hd : fw_u c 0 11 2 (nI 0) = d at hX
    have G : ∀ j f, ¬ (j = 0 ∧ (f < 9 ∨ f = 11)) → d j f = μ j f := fun j f q => by
      rw [← hd, fw_u_o (by omega), F1 j f (mt_sC_f (by omega))]
    have Cd : mt_C d 0 τ := mt_C_k C1 (fun f hf => by rw [← hd, fw_u_o (by omega)])
    have p2' : d 0 18 6 = nI 1 := by rw [G 0 18 (by omega)]; exact p2
    obtain ⟨e, ee, K1, K2, K3⟩ := mr_fill (μ := fw_u d 0 18 0 (nI 0)) (fun n a i => f_X10_restore_L20 n a i) (fd := 19) (od := 0) (N := 104) (fun i => nI (τ i)) (fun a => some (fw_u a 0 18 5 (nI 0), a 0 19 0)) (by decide) (fun n a q => by
      simp (discharger := omega) only [f_X10_restore_L20, nI_add, mt_mul, nI_clamp, nI_leI, nI_ltI, nI_eq, mt_in_t, mt_b1, mt_b2, mt_b3, mt_b4, mt_l, mt_g, ↓reduceIte, Nat.reduceEqDiff, Nat.reduceLeDiff, ml_0, ml_1, ml_2, ml_3, ml_4, ml_5, ml_6, ml_7, ml_8, ml_9, ml_10, ml_11, ml_12, ml_13, ml_14, ml_16, ml_31, ml_32, ml_40, ml_42, ml_48, ml_50, ml_57, ml_59, ml_60, ml_63, ml_98, ml_100, ml_103, ml_104, ml_105, ml_106, ml_107, ml_108, ml_109, ml_110, ml_111, ml_112, ml_113, ml_114, ml_115, ml_120, ml_127, ml_176, ml_180, ml_200, ml_254, ml_255, ml_256, ml_300, ml_728, ml_832, ml_65536, mt_un, Nat.le_refl]) (fun n a i hi q => by
      have q5 : a 0 21 i = nI (τ i) := by
        rw [q.1 0 21 (by omega), fw_u_o (by omega), G 0 21 (by omega)]
        have := M2 i hi
        rw [Nat.zero_add] at this
        exact this
      have hi' : ¬ 104 ≤ i := by omega
      simp (discharger := omega) only [f_X10_restore_L20, nI_add, mt_mul, nI_clamp, nI_leI, nI_ltI, nI_eq, mt_in_t, mt_b1, mt_b2, mt_b3, mt_b4, mt_l, mt_g, ↓reduceIte, Nat.reduceEqDiff, Nat.reduceLeDiff, ml_0, ml_1, ml_2, ml_3, ml_4, ml_5, ml_6, ml_7, ml_8, ml_9, ml_10, ml_11, ml_12, ml_13, ml_14, ml_16, ml_31, ml_32, ml_40, ml_42, ml_48, ml_50, ml_57, ml_59, ml_60, ml_63, ml_98, ml_100, ml_103, ml_104, ml_105, ml_106, ml_107, ml_108, ml_109, ml_110, ml_111, ml_112, ml_113, ml_114, ml_115, ml_120, ml_127, ml_176, ml_180, ml_200, ml_254, ml_255, ml_256, ml_300, ml_728, ml_832, ml_65536, hi', q5, Nat.zero_add])
    have e0 : e 0 19 0 = nI (τ 0) := K2 0 (by decide)
    have ee' : f_X10_restore_L20 1000 (fw_u d 0 18 0 (nI 0)) (nI 0) = some (fw_u e 0 18 5 (nI 0), nI (τ 0)) := by rw [← e0]; exact ee
    have GE : ∀ j f, ¬ (j = 0 ∧ (f < 9 ∨ f = 11 ∨ f = 18 ∨ f = 19)) → fw_u e 0 18 5 (nI 0) j f = μ j f := fun j f q => by
      rw [fw_u_o (by omega), K1 j f (by omega), fw_u_o (by omega), G j f (by omega)]
    have g18 : ∀ i, i ≠ 0 → i ≠ 5 → fw_u e 0 18 5 (nI 0) 0 18 i = μ 0 18 i := fun i q1 q2 => by
      rw [mt_un (by omega), K1 0 18 (by omega), mt_un (by omega), G 0 18 (by omega)]
    obtain ⟨nw, hn, a1, a2, a3⟩ := hHC
    refine ⟨d, nI (τ 0), 0, fw_u e 0 18 5 (nI 0), nI (τ 0), 0, hX, ?_, ?_, ?_, Or.inl ⟨rfl, rfl, rfl⟩⟩
    · simp (discharger := omega) only [f_X10_restore, nI_add, mt_mul, nI_clamp, nI_leI, nI_ltI, nI_eq, mt_in_t, mt_b1, mt_b2, mt_b3, mt_b4, mt_l, mt_g, ↓reduceIte, Nat.reduceEqDiff, Nat.reduceLeDiff, ml_0, ml_1, ml_2, ml_3, ml_4, ml_5, ml_6, ml_7, ml_8, ml_9, ml_10, ml_11, ml_12, ml_13, ml_14, ml_16, ml_31, ml_32, ml_40, ml_42, ml_48, ml_50, ml_57, ml_59, ml_60, ml_63, ml_98, ml_100, ml_103, ml_104, ml_105, ml_106, ml_107, ml_108, ml_109, ml_110, ml_111, ml_112, ml_113, ml_114, ml_115, ml_120, ml_127, ml_176, ml_180, ml_200, ml_254, ml_255, ml_256, ml_300, ml_728, ml_832, ml_65536, mt_un, p2', ee']
    · rw [mt_un (by omega), K1 0 18 (by omega), mt_uy rfl]
    · refine ⟨⟨τ, mt_C_k Cd (fun f hf => by rw [fw_u_o (by omega), K1 0 f (by omega), fw_u_o (by omega)]), fun i hi => by rw [fw_u_o (by omega)]; exact K2 i hi, hτ⟩, ⟨0, h, by omega, ⟨nw, hn, ?_, ?_, fun i hi => absurd hi (Nat.not_lt_zero i)⟩, ⟨mt_uy rfl, fun i hi => absurd hi (Nat.not_lt_zero i)⟩, fun i hi => absurd hi (Nat.not_lt_zero i)⟩, Or.inr ⟨by rw [GE 0 10 (by omega)]; exact p1, by rw [g18 6 (by omega) (by omega)]; exact p2, τ, mt_C_k C2 (fun f hf => GE 2 f (by omega)), mt_M_k M2 (GE 0 21 (by omega)), hτ⟩, ⟨n, n60, by rw [GE 0 13 (by omega)]; exact T1, by rw [g18 11 (by omega) (by omega)]; exact T2, by rw [GE 0 14 (by omega), GE 0 23 (by omega)]; exact T3⟩, ⟨v, v1, by rw [GE 0 10 (by omega)]; exact v2, by rw [g18 13 (by omega) (by omega)]; exact v3⟩, ⟨w, w1, by rw [GE 0 10 (by omega)]; exact w2, by rw [g18 14 (by omega) (by omega)]; exact w3⟩, ⟨m, m1, by rw [GE 0 16 (by omega)]; exact m2, by rw [g18 12 (by omega) (by omega)]; exact m3, by rw [GE 0 17 (by omega), GE 0 25 (by omega)]; exact m4⟩⟩
      · rw [fw_u_o (by omega), K1 0 11 (by omega), fw_u_o (by omega), ← hd, mt_un (by omega), F1 0 11 (mt_sC_f (by omega))]
        exact a1
      · rw [fw_u_o (by omega), K1 0 11 (by omega), fw_u_o (by omega), ← hd, mt_uy rfl]
/-! the input, the output, what is kept of errors -/
theorem mt_narc : ∀ c, c < 65536 → vp_nar .char (nI c) = nI c := fun c h => by
  rw [vp_nar_char]
  apply Int32.toBitVec_inj.1
  apply BitVec.eq_of_toNat_eq
  show ((UInt32.ofNat c).toUInt16.toUInt32.toNat) = (UInt32.ofNat c).toNat
  rw [UInt16.toNat_toUInt32, UInt32.toNat_toUInt16, UInt32.toNat_ofNat']
  rw [Nat.mod_eq_of_lt (show c < 2 ^ 32 by omega), Nat.mod_eq_of_lt (by omega)]
theorem pc_feed (hR : mt_R B μ) {c : Nat} (hc : c < 65536) : mt_A B Eq (fun k t => k = 3 ∧ t = 1) (f_X9_feed μ (nI c)) (fun m => f_X10_feed m (nI c)) := by
  obtain ⟨⟨σ, hC, hM, hok⟩, ⟨k, h, hk8, hHC, hHM, hHo⟩, hV, ⟨n, n60, T1, T2, T3⟩, hX7, hX8, hO⟩ := id hR
  by_cases p : n = 60
  · subst p
    refine mt_A_no (k := 3) (t := 1) (r := nI 0) (r2 := nI 0) hR ?_ ?_ ⟨rfl, rfl⟩
    · simp (discharger := omega) only [f_X9_feed, nI_add, mt_mul, nI_clamp, nI_leI, nI_ltI, nI_eq, mt_in_t, mt_b1, mt_b2, mt_b3, mt_b4, mt_l, mt_g, ↓reduceIte, Nat.reduceEqDiff, Nat.reduceLeDiff, ml_0, ml_1, ml_2, ml_3, ml_4, ml_5, ml_6, ml_7, ml_8, ml_9, ml_10, ml_11, ml_12, ml_13, ml_14, ml_16, ml_31, ml_32, ml_40, ml_42, ml_48, ml_50, ml_57, ml_59, ml_60, ml_63, ml_98, ml_100, ml_103, ml_104, ml_105, ml_106, ml_107, ml_108, ml_109, ml_110, ml_111, ml_112, ml_113, ml_114, ml_115, ml_120, ml_127, ml_176, ml_180, ml_200, ml_254, ml_255, ml_256, ml_300, ml_728, ml_832, ml_65536, T1, Nat.lt_irrefl]
    · simp (discharger := omega) only [f_X10_feed, f_X10_feed_J15, nI_add, mt_mul, nI_clamp, nI_leI, nI_ltI, nI_eq, mt_in_t, mt_b1, mt_b2, mt_b3, mt_b4, mt_l, mt_g, ↓reduceIte, Nat.reduceEqDiff, Nat.reduceLeDiff, ml_0, ml_1, ml_2, ml_3, ml_4, ml_5, ml_6, ml_7, ml_8, ml_9, ml_10, ml_11, ml_12, ml_13, ml_14, ml_16, ml_31, ml_32, ml_40, ml_42, ml_48, ml_50, ml_57, ml_59, ml_60, ml_63, ml_98, ml_100, ml_103, ml_104, ml_105, ml_106, ml_107, ml_108, ml_109, ml_110, ml_111, ml_112, ml_113, ml_114, ml_115, ml_120, ml_127, ml_176, ml_180, ml_200, ml_254, ml_255, ml_256, ml_300, ml_728, ml_832, ml_65536, T2, mt_uy]
  · have p1 : n < 60 := by omega
    have p2 : ¬ 60 ≤ n := by omega
    have nc := mt_narc c hc
    have hX : f_X9_feed μ (nI c) = some (fw_u (fw_u μ 0 14 n (nI c)) 0 13 1 (nI (n + 1)), nI (n + 1), 0) := by
      simp (discharger := omega) only [f_X9_feed, f_X1_append, nI_add, mt_mul, nI_clamp, nI_leI, nI_ltI, nI_eq, mt_in_t, mt_b1, mt_b2, mt_b3, mt_b4, mt_l, mt_g, ↓reduceIte, Nat.reduceEqDiff, Nat.reduceLeDiff, ml_0, ml_1, ml_2, ml_3, ml_4, ml_5, ml_6, ml_7, ml_8, ml_9, ml_10, ml_11, ml_12, ml_13, ml_14, ml_16, ml_31, ml_32, ml_40, ml_42, ml_48, ml_50, ml_57, ml_59, ml_60, ml_63, ml_98, ml_100, ml_103, ml_104, ml_105, ml_106, ml_107, ml_108, ml_109, ml_110, ml_111, ml_112, ml_113, ml_114, ml_115, ml_120, ml_127, ml_176, ml_180, ml_200, ml_254, ml_255, ml_256, ml_300, ml_728, ml_832, ml_65536, T1, p1, p2, nc, mt_un, mt_uy]
    generalize hd : fw_u (fw_u μ 0 14 n (nI c)) 0 13 1 (nI (n + 1)) = d at hX
    have T2' : d 0 18 11 = nI n := by rw [← hd, fw_u_o (by omega), fw_u_o (by omega)]; exact T2
    have hY : f_X10_feed d (nI c) = some (fw_u (fw_u (fw_u d 0 18 0 (nI 0)) 0 23 n (nI c)) 0 18 11 (nI (n + 1)), nI (n + 1)) := by
      simp (discharger := omega) only [f_X10_feed, f_X10_feed_J15, nI_add, mt_mul, nI_clamp, nI_leI, nI_ltI, nI_eq, mt_in_t, mt_b1, mt_b2, mt_b3, mt_b4, mt_l, mt_g, ↓reduceIte, Nat.reduceEqDiff, Nat.reduceLeDiff, ml_0, ml_1, ml_2, ml_3, ml_4, ml_5, ml_6, ml_7, ml_8, ml_9, ml_10, ml_11, ml_12, ml_13, ml_14, ml_16, ml_31, ml_32, ml_40, ml_42, ml_48, ml_50, ml_57, ml_59, ml_60, ml_63, ml_98, ml_100, ml_103, ml_104, ml_105, ml_106, ml_107, ml_108, ml_109, ml_110, ml_111, ml_112, ml_113, ml_114, ml_115, ml_120, ml_127, ml_176, ml_180, ml_200, ml_254, ml_255, ml_256, ml_300, ml_728, ml_832, ml_65536, T2', p, mt_un, mt_uy, Nat.le_refl]
    generalize he : fw_u (fw_u (fw_u d 0 18 0 (nI 0)) 0 23 n (nI c)) 0 18 11 (nI (n + 1)) = e at hY
    have GE : ∀ j f, ¬ (j = 0 ∧ (f = 13 ∨ f = 14 ∨ f = 18 ∨ f = 23)) → e j f = μ j f := fun j f q => by
      rw [← he, fw_u_o (by omega), fw_u_o (by omega), fw_u_o (by omega), ← hd, fw_u_o (by omega), fw_u_o (by omega)]
    have g18 : ∀ i, i ≠ 0 → i ≠ 11 → e 0 18 i = μ 0 18 i := fun i q1 q2 => by
      rw [← he, mt_un (by omega), fw_u_o (by omega), mt_un (by omega), ← hd, fw_u_o (by omega), fw_u_o (by omega)]
    have e14 : ∀ i, e 0 14 i = if i = n then nI c else μ 0 14 i := fun i => by
      rw [← he, fw_u_o (by omega), fw_u_o (by omega), fw_u_o (by omega), ← hd, fw_u_o (by omega)]
      by_cases q : i = n
      · rw [mt_uy q, if_pos q]
      · rw [mt_un (by omega), if_neg q]
    have e23 : ∀ i, e 0 23 i = if i = n then nI c else μ 0 23 i := fun i => by
      rw [← he, fw_u_o (by omega)]
      by_cases q : i = n
      · rw [mt_uy q, if_pos q]
      · rw [mt_un (by omega), fw_u_o (by omega), ← hd, fw_u_o (by omega), fw_u_o (by omega), if_neg q]
    obtain ⟨v, v1, v2, v3⟩ := hX7
    obtain ⟨w, w1, w2, w3⟩ := hX8
    obtain ⟨m, m1, m2, m3, m4⟩ := hO
    refine ⟨d, nI (n + 1), 0, e, nI (n + 1), 0, hX, hY, ?_, ?_, Or.inl ⟨rfl, rfl, rfl⟩⟩
    · rw [← he, mt_un (by omega), mt_un (by omega), mt_uy rfl]
    · refine ⟨⟨σ, mt_C_k hC (fun f hf => GE 0 f (by omega)), mt_M_k hM (GE 0 19 (by omega)), hok⟩, ⟨k, h, hk8, mt_HC_s hHC (fun j f hf hj => GE j f (by omega)) (GE 0 11 (by omega)), mt_HM_s hHM (g18 5 (by omega) (by omega)) (GE 0 22 (by omega)), hHo⟩, ?_, ⟨n + 1, by omega, ?_, ?_, fun i hi => ?_⟩, ⟨v, v1, by rw [GE 0 10 (by omega)]; exact v2, by rw [g18 13 (by omega) (by omega)]; exact v3⟩, ⟨w, w1, by rw [GE 0 10 (by omega)]; exact w2, by rw [g18 14 (by omega) (by omega)]; exact w3⟩, ⟨m, m1, by rw [GE 0 16 (by omega)]; exact m2, by rw [g18 12 (by omega) (by omega)]; exact m3, by rw [GE 0 17 (by omega), GE 0 25 (by omega)]; exact m4⟩⟩
      · unfold mt_V
        rw [GE 0 10 (by omega), g18 6 (by omega) (by omega)]
        rcases hV with hV | ⟨va, vb, ρ, vc, vd, ve⟩
        · exact Or.inl hV
        · exact Or.inr ⟨va, vb, ρ, mt_C_k vc (fun f hf => GE 2 f (by omega)), mt_M_k vd (GE 0 21 (by omega)), ve⟩
      · rw [← he, fw_u_o (by omega), fw_u_o (by omega), fw_u_o (by omega), ← hd, mt_uy rfl]
      · rw [← he, mt_uy rfl]
      · rw [e14, e23]
        by_cases q : i = n
        · rw [if_pos q, if_pos q]
          exact ⟨c, hc, rfl, rfl⟩
        · rw [if_neg q, if_neg q]
          exact T3 i (by omega)
theorem pc_errorPosition (hR : mt_R B μ) : mt_A B Eq mt_e5 (f_X9_errorPosition μ) (fun m => f_X10_errorPosition m) := by
  obtain ⟨v, v1, v2, v3⟩ := hR.2.2.2.2.1
  rcases v1 with rfl | v1
  · have n1 := mt_neg2
    refine mt_A_no (k := 5) (t := 1) (r := nI 0) (r2 := nI 0) hR ?_ ?_ ⟨rfl, rfl⟩
    · simp (discharger := omega) only [f_X9_errorPosition, nI_add, mt_mul, nI_clamp, nI_leI, nI_ltI, nI_eq, mt_in_t, mt_b1, mt_b2, mt_b3, mt_b4, mt_l, mt_g, ↓reduceIte, Nat.reduceEqDiff, Nat.reduceLeDiff, ml_0, ml_1, ml_2, ml_3, ml_4, ml_5, ml_6, ml_7, ml_8, ml_9, ml_10, ml_11, ml_12, ml_13, ml_14, ml_16, ml_31, ml_32, ml_40, ml_42, ml_48, ml_50, ml_57, ml_59, ml_60, ml_63, ml_98, ml_100, ml_103, ml_104, ml_105, ml_106, ml_107, ml_108, ml_109, ml_110, ml_111, ml_112, ml_113, ml_114, ml_115, ml_120, ml_127, ml_176, ml_180, ml_200, ml_254, ml_255, ml_256, ml_300, ml_728, ml_832, ml_65536, v2, n1]
    · simp (discharger := omega) only [f_X10_errorPosition, f_X10_fails, nI_add, mt_mul, nI_clamp, nI_leI, nI_ltI, nI_eq, mt_in_t, mt_b1, mt_b2, mt_b3, mt_b4, mt_l, mt_g, ↓reduceIte, Nat.reduceEqDiff, Nat.reduceLeDiff, ml_0, ml_1, ml_2, ml_3, ml_4, ml_5, ml_6, ml_7, ml_8, ml_9, ml_10, ml_11, ml_12, ml_13, ml_14, ml_16, ml_31, ml_32, ml_40, ml_42, ml_48, ml_50, ml_57, ml_59, ml_60, ml_63, ml_98, ml_100, ml_103, ml_104, ml_105, ml_106, ml_107, ml_108, ml_109, ml_110, ml_111, ml_112, ml_113, ml_114, ml_115, ml_120, ml_127, ml_176, ml_180, ml_200, ml_254, ml_255, ml_256, ml_300, ml_728, ml_832, ml_65536, mt_un, v3, ml_m1, mt_uu]
  · have n1 : ¬ nI v = nI 4294967295 := fun z => by
      have h1 := mt_neg2
      rw [← z] at h1
      exact h1 (nI_le (Nat.zero_le v) (by omega))
    refine mt_A_ok (r := nI v) hR ?_ ?_ rfl
    · simp (discharger := omega) only [f_X9_errorPosition, nI_add, mt_mul, nI_clamp, nI_leI, nI_ltI, nI_eq, mt_in_t, mt_b1, mt_b2, mt_b3, mt_b4, mt_l, mt_g, ↓reduceIte, Nat.reduceEqDiff, Nat.reduceLeDiff, ml_0, ml_1, ml_2, ml_3, ml_4, ml_5, ml_6, ml_7, ml_8, ml_9, ml_10, ml_11, ml_12, ml_13, ml_14, ml_16, ml_31, ml_32, ml_40, ml_42, ml_48, ml_50, ml_57, ml_59, ml_60, ml_63, ml_98, ml_100, ml_103, ml_104, ml_105, ml_106, ml_107, ml_108, ml_109, ml_110, ml_111, ml_112, ml_113, ml_114, ml_115, ml_120, ml_127, ml_176, ml_180, ml_200, ml_254, ml_255, ml_256, ml_300, ml_728, ml_832, ml_65536, v2, Nat.zero_le]
    · simp (discharger := omega) only [f_X10_errorPosition, nI_add, mt_mul, nI_clamp, nI_leI, nI_ltI, nI_eq, mt_in_t, mt_b1, mt_b2, mt_b3, mt_b4, mt_l, mt_g, ↓reduceIte, Nat.reduceEqDiff, Nat.reduceLeDiff, ml_0, ml_1, ml_2, ml_3, ml_4, ml_5, ml_6, ml_7, ml_8, ml_9, ml_10, ml_11, ml_12, ml_13, ml_14, ml_16, ml_31, ml_32, ml_40, ml_42, ml_48, ml_50, ml_57, ml_59, ml_60, ml_63, ml_98, ml_100, ml_103, ml_104, ml_105, ml_106, ml_107, ml_108, ml_109, ml_110, ml_111, ml_112, ml_113, ml_114, ml_115, ml_120, ml_127, ml_176, ml_180, ml_200, ml_254, ml_255, ml_256, ml_300, ml_728, ml_832, ml_65536, mt_un, v3, ml_m1, n1]
theorem pc_failedCommand (hR : mt_R B μ) : mt_A B Eq mt_e5 (f_X9_failedCommand μ) (fun m => f_X10_failedCommand m) := by
  obtain ⟨v, v1, v2, v3⟩ := hR.2.2.2.2.2.1
  rcases v1 with rfl | v1
  · have n1 := mt_neg2
    refine mt_A_no (k := 5) (t := 1) (r := nI 0) (r2 := nI 0) hR ?_ ?_ ⟨rfl, rfl⟩
    · simp (discharger := omega) only [f_X9_failedCommand, nI_add, mt_mul, nI_clamp, nI_leI, nI_ltI, nI_eq, mt_in_t, mt_b1, mt_b2, mt_b3, mt_b4, mt_l, mt_g, ↓reduceIte, Nat.reduceEqDiff, Nat.reduceLeDiff, ml_0, ml_1, ml_2, ml_3, ml_4, ml_5, ml_6, ml_7, ml_8, ml_9, ml_10, ml_11, ml_12, ml_13, ml_14, ml_16, ml_31, ml_32, ml_40, ml_42, ml_48, ml_50, ml_57, ml_59, ml_60, ml_63, ml_98, ml_100, ml_103, ml_104, ml_105, ml_106, ml_107, ml_108, ml_109, ml_110, ml_111, ml_112, ml_113, ml_114, ml_115, ml_120, ml_127, ml_176, ml_180, ml_200, ml_254, ml_255, ml_256, ml_300, ml_728, ml_832, ml_65536, v2, n1]
    · simp (discharger := omega) only [f_X10_failedCommand, f_X10_fails, nI_add, mt_mul, nI_clamp, nI_leI, nI_ltI, nI_eq, mt_in_t, mt_b1, mt_b2, mt_b3, mt_b4, mt_l, mt_g, ↓reduceIte, Nat.reduceEqDiff, Nat.reduceLeDiff, ml_0, ml_1, ml_2, ml_3, ml_4, ml_5, ml_6, ml_7, ml_8, ml_9, ml_10, ml_11, ml_12, ml_13, ml_14, ml_16, ml_31, ml_32, ml_40, ml_42, ml_48, ml_50, ml_57, ml_59, ml_60, ml_63, ml_98, ml_100, ml_103, ml_104, ml_105, ml_106, ml_107, ml_108, ml_109, ml_110, ml_111, ml_112, ml_113, ml_114, ml_115, ml_120, ml_127, ml_176, ml_180, ml_200, ml_254, ml_255, ml_256, ml_300, ml_728, ml_832, ml_65536, mt_un, v3, ml_m1, mt_uu]
  · have n1 : ¬ nI v = nI 4294967295 := fun z => by
      have h1 := mt_neg2
      rw [← z] at h1
      exact h1 (nI_le (Nat.zero_le v) (by omega))
    refine mt_A_ok (r := nI v) hR ?_ ?_ rfl
    · simp (discharger := omega) only [f_X9_failedCommand, nI_add, mt_mul, nI_clamp, nI_leI, nI_ltI, nI_eq, mt_in_t, mt_b1, mt_b2, mt_b3, mt_b4, mt_l, mt_g, ↓reduceIte, Nat.reduceEqDiff, Nat.reduceLeDiff, ml_0, ml_1, ml_2, ml_3, ml_4, ml_5, ml_6, ml_7, ml_8, ml_9, ml_10, ml_11, ml_12, ml_13, ml_14, ml_16, ml_31, ml_32, ml_40, ml_42, ml_48, ml_50, ml_57, ml_59, ml_60, ml_63, ml_98, ml_100, ml_103, ml_104, ml_105, ml_106, ml_107, ml_108, ml_109, ml_110, ml_111, ml_112, ml_113, ml_114, ml_115, ml_120, ml_127, ml_176, ml_180, ml_200, ml_254, ml_255, ml_256, ml_300, ml_728, ml_832, ml_65536, v2, Nat.zero_le]
    · simp (discharger := omega) only [f_X10_failedCommand, nI_add, mt_mul, nI_clamp, nI_leI, nI_ltI, nI_eq, mt_in_t, mt_b1, mt_b2, mt_b3, mt_b4, mt_l, mt_g, ↓reduceIte, Nat.reduceEqDiff, Nat.reduceLeDiff, ml_0, ml_1, ml_2, ml_3, ml_4, ml_5, ml_6, ml_7, ml_8, ml_9, ml_10, ml_11, ml_12, ml_13, ml_14, ml_16, ml_31, ml_32, ml_40, ml_42, ml_48, ml_50, ml_57, ml_59, ml_60, ml_63, ml_98, ml_100, ml_103, ml_104, ml_105, ml_106, ml_107, ml_108, ml_109, ml_110, ml_111, ml_112, ml_113, ml_114, ml_115, ml_120, ml_127, ml_176, ml_180, ml_200, ml_254, ml_255, ml_256, ml_300, ml_728, ml_832, ml_65536, mt_un, v3, ml_m1, n1]
theorem mt_ch : ∀ c, c < 65536 → (nI c).toUInt32 % 65536 = UInt32.ofNat c := fun c h => by
  apply UInt32.toNat_inj.1
  show (UInt32.ofNat c % 65536).toNat = _
  rw [UInt32.toNat_mod, UInt32.toNat_ofNat', Nat.mod_eq_of_lt (show c < 2 ^ 32 by omega)]
  exact Nat.mod_eq_of_lt h
theorem mt_ch2 {c : Nat} (h : c < 65536) : ((nI c).toUInt32 % 65536).toInt32 = nI c := by
  rw [mt_ch c h]
  rfl
theorem mt_ch3 {c : Nat} (h : c < 65536) : fw_ch (nI c) = true := decide_eq_true (mt_ch2 h)
theorem pc_outputChar (hR : mt_R B μ) (x : Int32) : mt_A B Eq mt_e1 (f_X9_outputChar μ x) (fun m => f_X10_outputChar m x) := by
  obtain ⟨m, m1, m2, m3, m4⟩ := hR.2.2.2.2.2.2
  rcases mt_rng x (n := m) (by omega) with ⟨g, hg, rfl⟩ | h
  · obtain ⟨c, hc, c1, c2⟩ := m4 g hg
    have z1 : ¬ g < 0 := by omega
    have z2 : ¬ m - 1 < g := by omega
    have z3 : nI m - nI 1 = nI (m - 1) := mt_sub (by omega)
    have z4 := mt_ch3 hc
    have z5 := mt_ch2 hc
    refine mt_A_ok (r := nI c) hR ?_ ?_ rfl
    · simp (discharger := omega) only [f_X9_outputChar, nI_add, mt_mul, nI_clamp, nI_leI, nI_ltI, nI_eq, mt_in_t, mt_b1, mt_b2, mt_b3, mt_b4, mt_l, mt_g, ↓reduceIte, Nat.reduceEqDiff, Nat.reduceLeDiff, ml_0, ml_1, ml_2, ml_3, ml_4, ml_5, ml_6, ml_7, ml_8, ml_9, ml_10, ml_11, ml_12, ml_13, ml_14, ml_16, ml_31, ml_32, ml_40, ml_42, ml_48, ml_50, ml_57, ml_59, ml_60, ml_63, ml_98, ml_100, ml_103, ml_104, ml_105, ml_106, ml_107, ml_108, ml_109, ml_110, ml_111, ml_112, ml_113, ml_114, ml_115, ml_120, ml_127, ml_176, ml_180, ml_200, ml_254, ml_255, ml_256, ml_300, ml_728, ml_832, ml_65536, m2, z1, hg, c1, z4]
    · simp (discharger := omega) only [f_X10_outputChar, f_X10_outputChar_J20, f_X10_in, nI_add, mt_mul, nI_clamp, nI_leI, nI_ltI, nI_eq, mt_in_t, mt_b1, mt_b2, mt_b3, mt_b4, mt_l, mt_g, ↓reduceIte, Nat.reduceEqDiff, Nat.reduceLeDiff, ml_0, ml_1, ml_2, ml_3, ml_4, ml_5, ml_6, ml_7, ml_8, ml_9, ml_10, ml_11, ml_12, ml_13, ml_14, ml_16, ml_31, ml_32, ml_40, ml_42, ml_48, ml_50, ml_57, ml_59, ml_60, ml_63, ml_98, ml_100, ml_103, ml_104, ml_105, ml_106, ml_107, ml_108, ml_109, ml_110, ml_111, ml_112, ml_113, ml_114, ml_115, ml_120, ml_127, ml_176, ml_180, ml_200, ml_254, ml_255, ml_256, ml_300, ml_728, ml_832, ml_65536, m3, z1, z2, z3, mt_uy, mt_un, c2, Nat.le_refl]
      rw [show (65536 : UInt32) = 65536 from rfl, z5]
  · have e := mt_in_lit (μ := μ) (x := x) (n := m) (by omega) h
    refine mt_A_no (k := 1) (t := 1) (r := nI 0) (r2 := nI 0) hR ?_ ?_ ⟨rfl, rfl⟩
    · by_cases h0 : x < nI 0
      · simp (discharger := omega) only [f_X9_outputChar, nI_add, mt_mul, nI_clamp, nI_leI, nI_ltI, nI_eq, mt_in_t, mt_b1, mt_b2, mt_b3, mt_b4, mt_l, mt_g, ↓reduceIte, Nat.reduceEqDiff, Nat.reduceLeDiff, ml_0, ml_1, ml_2, ml_3, ml_4, ml_5, ml_6, ml_7, ml_8, ml_9, ml_10, ml_11, ml_12, ml_13, ml_14, ml_16, ml_31, ml_32, ml_40, ml_42, ml_48, ml_50, ml_57, ml_59, ml_60, ml_63, ml_98, ml_100, ml_103, ml_104, ml_105, ml_106, ml_107, ml_108, ml_109, ml_110, ml_111, ml_112, ml_113, ml_114, ml_115, ml_120, ml_127, ml_176, ml_180, ml_200, ml_254, ml_255, ml_256, ml_300, ml_728, ml_832, ml_65536, h0]
      · rcases h with h | h
        · exact absurd h h0
        · have h2 : ¬ x < nI m := fun z => by
            rw [Int32.lt_iff_toInt_lt] at z
            rw [Int32.le_iff_toInt_le] at h
            omega
          simp (discharger := omega) only [f_X9_outputChar, nI_add, mt_mul, nI_clamp, nI_leI, nI_ltI, nI_eq, mt_in_t, mt_b1, mt_b2, mt_b3, mt_b4, mt_l, mt_g, ↓reduceIte, Nat.reduceEqDiff, Nat.reduceLeDiff, ml_0, ml_1, ml_2, ml_3, ml_4, ml_5, ml_6, ml_7, ml_8, ml_9, ml_10, ml_11, ml_12, ml_13, ml_14, ml_16, ml_31, ml_32, ml_40, ml_42, ml_48, ml_50, ml_57, ml_59, ml_60, ml_63, ml_98, ml_100, ml_103, ml_104, ml_105, ml_106, ml_107, ml_108, ml_109, ml_110, ml_111, ml_112, ml_113, ml_114, ml_115, ml_120, ml_127, ml_176, ml_180, ml_200, ml_254, ml_255, ml_256, ml_300, ml_728, ml_832, ml_65536, h0, m2, h2]
    · simp (discharger := omega) only [f_X10_outputChar, f_X10_outputChar_J20, nI_add, mt_mul, nI_clamp, nI_leI, nI_ltI, nI_eq, mt_in_t, mt_b1, mt_b2, mt_b3, mt_b4, mt_l, mt_g, ↓reduceIte, Nat.reduceEqDiff, Nat.reduceLeDiff, ml_0, ml_1, ml_2, ml_3, ml_4, ml_5, ml_6, ml_7, ml_8, ml_9, ml_10, ml_11, ml_12, ml_13, ml_14, ml_16, ml_31, ml_32, ml_40, ml_42, ml_48, ml_50, ml_57, ml_59, ml_60, ml_63, ml_98, ml_100, ml_103, ml_104, ml_105, ml_106, ml_107, ml_108, ml_109, ml_110, ml_111, ml_112, ml_113, ml_114, ml_115, ml_120, ml_127, ml_176, ml_180, ml_200, ml_254, ml_255, ml_256, ml_300, ml_728, ml_832, ml_65536, m3, e, mt_uy]
end PU
