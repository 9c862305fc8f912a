/-! the mathematics, 13: the calls that only read -/
section PR
variable {μ : fw_M} {B : Nat}
theorem pc_client (hR : mt_R B μ) (x : Int32) : mt_A B Eq mt_e1 (f_X9_client μ x) (fun m => f_X10_client m x) := by
  obtain ⟨σ, hC, hM, hok⟩ := hR.1
  have hk := hok.1
  have h16 := hk.1
  rcases mt_gar (B := B) hC hM hk x with ⟨g, hg, rfl, q1, q2⟩ | ⟨q1, q2⟩
  · have e0 : μ 0 1 g = nI (σ (4 + 6 * g + 0)) := mt_C_g hC (w := 0) (by decide) hg
    have e1 := mr_of (mt_M_t (t := 0) hM (by decide)) (g := g) (w := 0) (by omega) (by decide)
    refine mt_A_ok (r := nI (σ (4 + 6 * g + 0))) (r2 := nI (σ (4 + 6 * g + 0))) hR ?_ ?_ rfl
    · simp (discharger := omega) only [f_X9_client, f_X9_requireGarment, nI_add, mt_mul, nI_clamp, nI_leI, nI_ltI, nI_eq, mt_in_t, mt_b1, mt_b2, mt_b3, mt_b4, mt_l, mt_g, ↓reduceIte, Nat.reduceEqDiff, Nat.reduceLeDiff, ml_0, ml_1, ml_2, ml_3, ml_4, ml_5, ml_6, ml_7, ml_8, ml_9, ml_10, ml_11, ml_12, ml_13, ml_14, ml_16, ml_31, ml_32, ml_40, ml_42, ml_48, ml_50, ml_57, ml_59, ml_60, ml_63, ml_98, ml_100, ml_103, ml_104, ml_105, ml_106, ml_107, ml_108, ml_109, ml_110, ml_111, ml_112, ml_113, ml_114, ml_115, ml_120, ml_127, ml_176, ml_180, ml_200, ml_254, ml_255, ml_256, ml_300, ml_728, ml_832, ml_65536, q1, e0]
    · simp (discharger := omega) only [f_X10_client, f_X10_asked, f_X10_asked_J14, nI_add, mt_mul, nI_clamp, nI_leI, nI_ltI, nI_eq, mt_in_t, mt_b1, mt_b2, mt_b3, mt_b4, mt_l, mt_g, ↓reduceIte, Nat.reduceEqDiff, Nat.reduceLeDiff, ml_0, ml_1, ml_2, ml_3, ml_4, ml_5, ml_6, ml_7, ml_8, ml_9, ml_10, ml_11, ml_12, ml_13, ml_14, ml_16, ml_31, ml_32, ml_40, ml_42, ml_48, ml_50, ml_57, ml_59, ml_60, ml_63, ml_98, ml_100, ml_103, ml_104, ml_105, ml_106, ml_107, ml_108, ml_109, ml_110, ml_111, ml_112, ml_113, ml_114, ml_115, ml_120, ml_127, ml_176, ml_180, ml_200, ml_254, ml_255, ml_256, ml_300, ml_728, ml_832, ml_65536, q2, mt_uy, e1, Nat.le_refl]
  · refine mt_A_no (k := 1) (t := 1) (r := nI 0) (r2 := nI 0) hR ?_ ?_ ⟨rfl, rfl⟩
    · simp (discharger := omega) only [f_X9_client, f_X9_requireGarment, nI_add, mt_mul, nI_clamp, nI_leI, nI_ltI, nI_eq, mt_in_t, mt_b1, mt_b2, mt_b3, mt_b4, mt_l, mt_g, ↓reduceIte, Nat.reduceEqDiff, Nat.reduceLeDiff, ml_0, ml_1, ml_2, ml_3, ml_4, ml_5, ml_6, ml_7, ml_8, ml_9, ml_10, ml_11, ml_12, ml_13, ml_14, ml_16, ml_31, ml_32, ml_40, ml_42, ml_48, ml_50, ml_57, ml_59, ml_60, ml_63, ml_98, ml_100, ml_103, ml_104, ml_105, ml_106, ml_107, ml_108, ml_109, ml_110, ml_111, ml_112, ml_113, ml_114, ml_115, ml_120, ml_127, ml_176, ml_180, ml_200, ml_254, ml_255, ml_256, ml_300, ml_728, ml_832, ml_65536, q1]
    · simp (discharger := omega) only [f_X10_client, f_X10_asked, f_X10_asked_J14, nI_add, mt_mul, nI_clamp, nI_leI, nI_ltI, nI_eq, mt_in_t, mt_b1, mt_b2, mt_b3, mt_b4, mt_l, mt_g, ↓reduceIte, Nat.reduceEqDiff, Nat.reduceLeDiff, ml_0, ml_1, ml_2, ml_3, ml_4, ml_5, ml_6, ml_7, ml_8, ml_9, ml_10, ml_11, ml_12, ml_13, ml_14, ml_16, ml_31, ml_32, ml_40, ml_42, ml_48, ml_50, ml_57, ml_59, ml_60, ml_63, ml_98, ml_100, ml_103, ml_104, ml_105, ml_106, ml_107, ml_108, ml_109, ml_110, ml_111, ml_112, ml_113, ml_114, ml_115, ml_120, ml_127, ml_176, ml_180, ml_200, ml_254, ml_255, ml_256, ml_300, ml_728, ml_832, ml_65536, q2, mt_uy]
theorem pc_colour (hR : mt_R B μ) (x : Int32) : mt_A B Eq mt_e1 (f_X9_colour μ x) (fun m => f_X10_colour m x) := by
  obtain ⟨σ, hC, hM, hok⟩ := hR.1
  have hk := hok.1
  have h16 := hk.1
  rcases mt_gar (B := B) hC hM hk x with ⟨g, hg, rfl, q1, q2⟩ | ⟨q1, q2⟩
  · have e0 : μ 0 3 g = nI (σ (4 + 6 * g + 2)) := mt_C_g hC (w := 2) (by decide) hg
    have e1 := mr_of (mt_M_t (t := 0) hM (by decide)) (g := g) (w := 2) (by omega) (by decide)
    refine mt_A_ok (r := nI (σ (4 + 6 * g + 2))) (r2 := nI (σ (4 + 6 * g + 2))) hR ?_ ?_ rfl
    · simp (discharger := omega) only [f_X9_colour, f_X9_requireGarment, nI_add, mt_mul, nI_clamp, nI_leI, nI_ltI, nI_eq, mt_in_t, mt_b1, mt_b2, mt_b3, mt_b4, mt_l, mt_g, ↓reduceIte, Nat.reduceEqDiff, Nat.reduceLeDiff, ml_0, ml_1, ml_2, ml_3, ml_4, ml_5, ml_6, ml_7, ml_8, ml_9, ml_10, ml_11, ml_12, ml_13, ml_14, ml_16, ml_31, ml_32, ml_40, ml_42, ml_48, ml_50, ml_57, ml_59, ml_60, ml_63, ml_98, ml_100, ml_103, ml_104, ml_105, ml_106, ml_107, ml_108, ml_109, ml_110, ml_111, ml_112, ml_113, ml_114, ml_115, ml_120, ml_127, ml_176, ml_180, ml_200, ml_254, ml_255, ml_256, ml_300, ml_728, ml_832, ml_65536, q1, e0]
    · simp (discharger := omega) only [f_X10_colour, f_X10_asked, f_X10_asked_J14, nI_add, mt_mul, nI_clamp, nI_leI, nI_ltI, nI_eq, mt_in_t, mt_b1, mt_b2, mt_b3, mt_b4, mt_l, mt_g, ↓reduceIte, Nat.reduceEqDiff, Nat.reduceLeDiff, ml_0, ml_1, ml_2, ml_3, ml_4, ml_5, ml_6, ml_7, ml_8, ml_9, ml_10, ml_11, ml_12, ml_13, ml_14, ml_16, ml_31, ml_32, ml_40, ml_42, ml_48, ml_50, ml_57, ml_59, ml_60, ml_63, ml_98, ml_100, ml_103, ml_104, ml_105, ml_106, ml_107, ml_108, ml_109, ml_110, ml_111, ml_112, ml_113, ml_114, ml_115, ml_120, ml_127, ml_176, ml_180, ml_200, ml_254, ml_255, ml_256, ml_300, ml_728, ml_832, ml_65536, q2, mt_uy, e1, Nat.le_refl]
  · refine mt_A_no (k := 1) (t := 1) (r := nI 0) (r2 := nI 0) hR ?_ ?_ ⟨rfl, rfl⟩
    · simp (discharger := omega) only [f_X9_colour, f_X9_requireGarment, nI_add, mt_mul, nI_clamp, nI_leI, nI_ltI, nI_eq, mt_in_t, mt_b1, mt_b2, mt_b3, mt_b4, mt_l, mt_g, ↓reduceIte, Nat.reduceEqDiff, Nat.reduceLeDiff, ml_0, ml_1, ml_2, ml_3, ml_4, ml_5, ml_6, ml_7, ml_8, ml_9, ml_10, ml_11, ml_12, ml_13, ml_14, ml_16, ml_31, ml_32, ml_40, ml_42, ml_48, ml_50, ml_57, ml_59, ml_60, ml_63, ml_98, ml_100, ml_103, ml_104, ml_105, ml_106, ml_107, ml_108, ml_109, ml_110, ml_111, ml_112, ml_113, ml_114, ml_115, ml_120, ml_127, ml_176, ml_180, ml_200, ml_254, ml_255, ml_256, ml_300, ml_728, ml_832, ml_65536, q1]
    · simp (discharger := omega) only [f_X10_colour, f_X10_asked, f_X10_asked_J14, nI_add, mt_mul, nI_clamp, nI_leI, nI_ltI, nI_eq, mt_in_t, mt_b1, mt_b2, mt_b3, mt_b4, mt_l, mt_g, ↓reduceIte, Nat.reduceEqDiff, Nat.reduceLeDiff, ml_0, ml_1, ml_2, ml_3, ml_4, ml_5, ml_6, ml_7, ml_8, ml_9, ml_10, ml_11, ml_12, ml_13, ml_14, ml_16, ml_31, ml_32, ml_40, ml_42, ml_48, ml_50, ml_57, ml_59, ml_60, ml_63, ml_98, ml_100, ml_103, ml_104, ml_105, ml_106, ml_107, ml_108, ml_109, ml_110, ml_111, ml_112, ml_113, ml_114, ml_115, ml_120, ml_127, ml_176, ml_180, ml_200, ml_254, ml_255, ml_256, ml_300, ml_728, ml_832, ml_65536, q2, mt_uy]
theorem pc_stains (hR : mt_R B μ) (x : Int32) : mt_A B Eq mt_e1 (f_X9_stains μ x) (fun m => f_X10_stains m x) := by
  obtain ⟨σ, hC, hM, hok⟩ := hR.1
  have hk := hok.1
  have h16 := hk.1
  rcases mt_gar (B := B) hC hM hk x with ⟨g, hg, rfl, q1, q2⟩ | ⟨q1, q2⟩
  · have e0 : μ 0 4 g = nI (σ (4 + 6 * g + 3)) := mt_C_g hC (w := 3) (by decide) hg
    have e1 := mr_of (mt_M_t (t := 0) hM (by decide)) (g := g) (w := 3) (by omega) (by decide)
    refine mt_A_ok (r := nI (σ (4 + 6 * g + 3))) (r2 := nI (σ (4 + 6 * g + 3))) hR ?_ ?_ rfl
    · simp (discharger := omega) only [f_X9_stains, f_X9_requireGarment, nI_add, mt_mul, nI_clamp, nI_leI, nI_ltI, nI_eq, mt_in_t, mt_b1, mt_b2, mt_b3, mt_b4, mt_l, mt_g, ↓reduceIte, Nat.reduceEqDiff, Nat.reduceLeDiff, ml_0, ml_1, ml_2, ml_3, ml_4, ml_5, ml_6, ml_7, ml_8, ml_9, ml_10, ml_11, ml_12, ml_13, ml_14, ml_16, ml_31, ml_32, ml_40, ml_42, ml_48, ml_50, ml_57, ml_59, ml_60, ml_63, ml_98, ml_100, ml_103, ml_104, ml_105, ml_106, ml_107, ml_108, ml_109, ml_110, ml_111, ml_112, ml_113, ml_114, ml_115, ml_120, ml_127, ml_176, ml_180, ml_200, ml_254, ml_255, ml_256, ml_300, ml_728, ml_832, ml_65536, q1, e0]
    · simp (discharger := omega) only [f_X10_stains, f_X10_asked, f_X10_asked_J14, nI_add, mt_mul, nI_clamp, nI_leI, nI_ltI, nI_eq, mt_in_t, mt_b1, mt_b2, mt_b3, mt_b4, mt_l, mt_g, ↓reduceIte, Nat.reduceEqDiff, Nat.reduceLeDiff, ml_0, ml_1, ml_2, ml_3, ml_4, ml_5, ml_6, ml_7, ml_8, ml_9, ml_10, ml_11, ml_12, ml_13, ml_14, ml_16, ml_31, ml_32, ml_40, ml_42, ml_48, ml_50, ml_57, ml_59, ml_60, ml_63, ml_98, ml_100, ml_103, ml_104, ml_105, ml_106, ml_107, ml_108, ml_109, ml_110, ml_111, ml_112, ml_113, ml_114, ml_115, ml_120, ml_127, ml_176, ml_180, ml_200, ml_254, ml_255, ml_256, ml_300, ml_728, ml_832, ml_65536, q2, mt_uy, e1, Nat.le_refl]
  · refine mt_A_no (k := 1) (t := 1) (r := nI 0) (r2 := nI 0) hR ?_ ?_ ⟨rfl, rfl⟩
    · simp (discharger := omega) only [f_X9_stains, f_X9_requireGarment, nI_add, mt_mul, nI_clamp, nI_leI, nI_ltI, nI_eq, mt_in_t, mt_b1, mt_b2, mt_b3, mt_b4, mt_l, mt_g, ↓reduceIte, Nat.reduceEqDiff, Nat.reduceLeDiff, ml_0, ml_1, ml_2, ml_3, ml_4, ml_5, ml_6, ml_7, ml_8, ml_9, ml_10, ml_11, ml_12, ml_13, ml_14, ml_16, ml_31, ml_32, ml_40, ml_42, ml_48, ml_50, ml_57, ml_59, ml_60, ml_63, ml_98, ml_100, ml_103, ml_104, ml_105, ml_106, ml_107, ml_108, ml_109, ml_110, ml_111, ml_112, ml_113, ml_114, ml_115, ml_120, ml_127, ml_176, ml_180, ml_200, ml_254, ml_255, ml_256, ml_300, ml_728, ml_832, ml_65536, q1]
    · simp (discharger := omega) only [f_X10_stains, f_X10_asked, f_X10_asked_J14, nI_add, mt_mul, nI_clamp, nI_leI, nI_ltI, nI_eq, mt_in_t, mt_b1, mt_b2, mt_b3, mt_b4, mt_l, mt_g, ↓reduceIte, Nat.reduceEqDiff, Nat.reduceLeDiff, ml_0, ml_1, ml_2, ml_3, ml_4, ml_5, ml_6, ml_7, ml_8, ml_9, ml_10, ml_11, ml_12, ml_13, ml_14, ml_16, ml_31, ml_32, ml_40, ml_42, ml_48, ml_50, ml_57, ml_59, ml_60, ml_63, ml_98, ml_100, ml_103, ml_104, ml_105, ml_106, ml_107, ml_108, ml_109, ml_110, ml_111, ml_112, ml_113, ml_114, ml_115, ml_120, ml_127, ml_176, ml_180, ml_200, ml_254, ml_255, ml_256, ml_300, ml_728, ml_832, ml_65536, q2, mt_uy]
theorem pc_washes (hR : mt_R B μ) (x : Int32) : mt_A B Eq mt_e1 (f_X9_washes μ x) (fun m => f_X10_washes m x) := by
  obtain ⟨σ, hC, hM, hok⟩ := hR.1
  have hk := hok.1
  have h16 := hk.1
  rcases mt_gar (B := B) hC hM hk x with ⟨g, hg, rfl, q1, q2⟩ | ⟨q1, q2⟩
  · have e0 : μ 0 6 g = nI (σ (4 + 6 * g + 5)) := mt_C_g hC (w := 5) (by decide) hg
    have e1 := mr_of (mt_M_t (t := 0) hM (by decide)) (g := g) (w := 5) (by omega) (by decide)
    refine mt_A_ok (r := nI (σ (4 + 6 * g + 5))) (r2 := nI (σ (4 + 6 * g + 5))) hR ?_ ?_ rfl
    · simp (discharger := omega) only [f_X9_washes, f_X9_requireGarment, nI_add, mt_mul, nI_clamp, nI_leI, nI_ltI, nI_eq, mt_in_t, mt_b1, mt_b2, mt_b3, mt_b4, mt_l, mt_g, ↓reduceIte, Nat.reduceEqDiff, Nat.reduceLeDiff, ml_0, ml_1, ml_2, ml_3, ml_4, ml_5, ml_6, ml_7, ml_8, ml_9, ml_10, ml_11, ml_12, ml_13, ml_14, ml_16, ml_31, ml_32, ml_40, ml_42, ml_48, ml_50, ml_57, ml_59, ml_60, ml_63, ml_98, ml_100, ml_103, ml_104, ml_105, ml_106, ml_107, ml_108, ml_109, ml_110, ml_111, ml_112, ml_113, ml_114, ml_115, ml_120, ml_127, ml_176, ml_180, ml_200, ml_254, ml_255, ml_256, ml_300, ml_728, ml_832, ml_65536, q1, e0]
    · simp (discharger := omega) only [f_X10_washes, f_X10_asked, f_X10_asked_J14, nI_add, mt_mul, nI_clamp, nI_leI, nI_ltI, nI_eq, mt_in_t, mt_b1, mt_b2, mt_b3, mt_b4, mt_l, mt_g, ↓reduceIte, Nat.reduceEqDiff, Nat.reduceLeDiff, ml_0, ml_1, ml_2, ml_3, ml_4, ml_5, ml_6, ml_7, ml_8, ml_9, ml_10, ml_11, ml_12, ml_13, ml_14, ml_16, ml_31, ml_32, ml_40, ml_42, ml_48, ml_50, ml_57, ml_59, ml_60, ml_63, ml_98, ml_100, ml_103, ml_104, ml_105, ml_106, ml_107, ml_108, ml_109, ml_110, ml_111, ml_112, ml_113, ml_114, ml_115, ml_120, ml_127, ml_176, ml_180, ml_200, ml_254, ml_255, ml_256, ml_300, ml_728, ml_832, ml_65536, q2, mt_uy, e1, Nat.le_refl]
  · refine mt_A_no (k := 1) (t := 1) (r := nI 0) (r2 := nI 0) hR ?_ ?_ ⟨rfl, rfl⟩
    · simp (discharger := omega) only [f_X9_washes, f_X9_requireGarment, nI_add, mt_mul, nI_clamp, nI_leI, nI_ltI, nI_eq, mt_in_t, mt_b1, mt_b2, mt_b3, mt_b4, mt_l, mt_g, ↓reduceIte, Nat.reduceEqDiff, Nat.reduceLeDiff, ml_0, ml_1, ml_2, ml_3, ml_4, ml_5, ml_6, ml_7, ml_8, ml_9, ml_10, ml_11, ml_12, ml_13, ml_14, ml_16, ml_31, ml_32, ml_40, ml_42, ml_48, ml_50, ml_57, ml_59, ml_60, ml_63, ml_98, ml_100, ml_103, ml_104, ml_105, ml_106, ml_107, ml_108, ml_109, ml_110, ml_111, ml_112, ml_113, ml_114, ml_115, ml_120, ml_127, ml_176, ml_180, ml_200, ml_254, ml_255, ml_256, ml_300, ml_728, ml_832, ml_65536, q1]
    · simp (discharger := omega) only [f_X10_washes, f_X10_asked, f_X10_asked_J14, nI_add, mt_mul, nI_clamp, nI_leI, nI_ltI, nI_eq, mt_in_t, mt_b1, mt_b2, mt_b3, mt_b4, mt_l, mt_g, ↓reduceIte, Nat.reduceEqDiff, Nat.reduceLeDiff, ml_0, ml_1, ml_2, ml_3, ml_4, ml_5, ml_6, ml_7, ml_8, ml_9, ml_10, ml_11, ml_12, ml_13, ml_14, ml_16, ml_31, ml_32, ml_40, ml_42, ml_48, ml_50, ml_57, ml_59, ml_60, ml_63, ml_98, ml_100, ml_103, ml_104, ml_105, ml_106, ml_107, ml_108, ml_109, ml_110, ml_111, ml_112, ml_113, ml_114, ml_115, ml_120, ml_127, ml_176, ml_180, ml_200, ml_254, ml_255, ml_256, ml_300, ml_728, ml_832, ml_65536, q2, mt_uy]
theorem mt_bo2 : ∀ k, k < 2 → (if nI k = nI 1 then nI 1 else nI 0) = nI k := by decide +kernel
theorem pc_isSock (hR : mt_R B μ) (x : Int32) : mt_A B (fun a b => a = b ∧ (a = nI 0 ∨ a = nI 1)) mt_e1 (f_X9_isSock μ x) (fun m => f_X10_isSock m x) := by
  obtain ⟨σ, hC, hM, hok⟩ := hR.1
  have hk := hok.1
  have h16 := hk.1
  rcases mt_gar (B := B) hC hM hk x with ⟨g, hg, rfl, q1, q2⟩ | ⟨q1, q2⟩
  · have e0 : μ 0 2 g = nI (σ (4 + 6 * g + 1)) := mt_C_g hC (w := 1) (by decide) hg
    have e1 := mr_of (mt_M_t (t := 0) hM (by decide)) (g := g) (w := 1) (by omega) (by decide)
    have b1 := (hk.2 g hg).2.1
    refine mt_A_ok (r := nI (σ (4 + 6 * g + 1))) (r2 := nI (σ (4 + 6 * g + 1))) hR ?_ ?_ ⟨rfl, ?_⟩
    · simp (discharger := omega) only [f_X9_isSock, f_X9_requireGarment, nI_add, mt_mul, nI_clamp, nI_leI, nI_ltI, nI_eq, mt_in_t, mt_b1, mt_b2, mt_b3, mt_b4, mt_l, mt_g, ↓reduceIte, Nat.reduceEqDiff, Nat.reduceLeDiff, ml_0, ml_1, ml_2, ml_3, ml_4, ml_5, ml_6, ml_7, ml_8, ml_9, ml_10, ml_11, ml_12, ml_13, ml_14, ml_16, ml_31, ml_32, ml_40, ml_42, ml_48, ml_50, ml_57, ml_59, ml_60, ml_63, ml_98, ml_100, ml_103, ml_104, ml_105, ml_106, ml_107, ml_108, ml_109, ml_110, ml_111, ml_112, ml_113, ml_114, ml_115, ml_120, ml_127, ml_176, ml_180, ml_200, ml_254, ml_255, ml_256, ml_300, ml_728, ml_832, ml_65536, q1, e0, mt_bo]
    · have hc : σ (4 + 6 * g + 1) = 0 ∨ σ (4 + 6 * g + 1) = 1 := by omega
      rcases hc with hc | hc <;> simp (discharger := omega) only [f_X10_isSock, f_X10_asked, f_X10_asked_J14, nI_add, mt_mul, nI_clamp, nI_leI, nI_ltI, nI_eq, mt_in_t, mt_b1, mt_b2, mt_b3, mt_b4, mt_l, mt_g, ↓reduceIte, Nat.reduceEqDiff, Nat.reduceLeDiff, ml_0, ml_1, ml_2, ml_3, ml_4, ml_5, ml_6, ml_7, ml_8, ml_9, ml_10, ml_11, ml_12, ml_13, ml_14, ml_16, ml_31, ml_32, ml_40, ml_42, ml_48, ml_50, ml_57, ml_59, ml_60, ml_63, ml_98, ml_100, ml_103, ml_104, ml_105, ml_106, ml_107, ml_108, ml_109, ml_110, ml_111, ml_112, ml_113, ml_114, ml_115, ml_120, ml_127, ml_176, ml_180, ml_200, ml_254, ml_255, ml_256, ml_300, ml_728, ml_832, ml_65536, q2, mt_uy, e1, Nat.le_refl, hc]
    · have hc : σ (4 + 6 * g + 1) = 0 ∨ σ (4 + 6 * g + 1) = 1 := by omega
      rcases hc with hc | hc <;> rw [hc]
      · exact Or.inl rfl
      · exact Or.inr rfl
  · refine mt_A_no (k := 1) (t := 1) (r := nI 0) (r2 := nI 0) hR ?_ ?_ ⟨rfl, rfl⟩
    · simp (discharger := omega) only [f_X9_isSock, f_X9_requireGarment, nI_add, mt_mul, nI_clamp, nI_leI, nI_ltI, nI_eq, mt_in_t, mt_b1, mt_b2, mt_b3, mt_b4, mt_l, mt_g, ↓reduceIte, Nat.reduceEqDiff, Nat.reduceLeDiff, ml_0, ml_1, ml_2, ml_3, ml_4, ml_5, ml_6, ml_7, ml_8, ml_9, ml_10, ml_11, ml_12, ml_13, ml_14, ml_16, ml_31, ml_32, ml_40, ml_42, ml_48, ml_50, ml_57, ml_59, ml_60, ml_63, ml_98, ml_100, ml_103, ml_104, ml_105, ml_106, ml_107, ml_108, ml_109, ml_110, ml_111, ml_112, ml_113, ml_114, ml_115, ml_120, ml_127, ml_176, ml_180, ml_200, ml_254, ml_255, ml_256, ml_300, ml_728, ml_832, ml_65536, q1]
    · simp (discharger := omega) only [f_X10_isSock, f_X10_asked, f_X10_asked_J14, nI_add, mt_mul, nI_clamp, nI_leI, nI_ltI, nI_eq, mt_in_t, mt_b1, mt_b2, mt_b3, mt_b4, mt_l, mt_g, ↓reduceIte, Nat.reduceEqDiff, Nat.reduceLeDiff, ml_0, ml_1, ml_2, ml_3, ml_4, ml_5, ml_6, ml_7, ml_8, ml_9, ml_10, ml_11, ml_12, ml_13, ml_14, ml_16, ml_31, ml_32, ml_40, ml_42, ml_48, ml_50, ml_57, ml_59, ml_60, ml_63, ml_98, ml_100, ml_103, ml_104, ml_105, ml_106, ml_107, ml_108, ml_109, ml_110, ml_111, ml_112, ml_113, ml_114, ml_115, ml_120, ml_127, ml_176, ml_180, ml_200, ml_254, ml_255, ml_256, ml_300, ml_728, ml_832, ml_65536, q2, mt_uy]
theorem pc_stainCount (hR : mt_R B μ) (x : Int32) : mt_A B Eq mt_e1 (f_X9_stainCount μ x) (fun m => f_X10_stainCount m x) := by
  obtain ⟨σ, hC, hM, hok⟩ := hR.1
  have hk := hok.1
  have h16 := hk.1
  rcases mt_gar (B := B) hC hM hk x with ⟨g, hg, rfl, q1, q2⟩ | ⟨q1, q2⟩
  · have e0 := mc_stainsOn hC hk hg
    have e1 := mr_of (mt_M_t (t := 0) hM (by decide)) (g := g) (w := 3) (by omega) (by decide)
    have b3 := (hk.2 g hg).2.2.2.1
    refine mt_A_ok (r := nI (ms_pc (σ (4 + 6 * g + 3)))) (r2 := nI (ms_pc (σ (4 + 6 * g + 3)))) hR ?_ ?_ rfl
    · simp (discharger := omega) only [f_X9_stainCount, f_X9_requireGarment, nI_add, mt_mul, nI_clamp, nI_leI, nI_ltI, nI_eq, mt_in_t, mt_b1, mt_b2, mt_b3, mt_b4, mt_l, mt_g, ↓reduceIte, Nat.reduceEqDiff, Nat.reduceLeDiff, ml_0, ml_1, ml_2, ml_3, ml_4, ml_5, ml_6, ml_7, ml_8, ml_9, ml_10, ml_11, ml_12, ml_13, ml_14, ml_16, ml_31, ml_32, ml_40, ml_42, ml_48, ml_50, ml_57, ml_59, ml_60, ml_63, ml_98, ml_100, ml_103, ml_104, ml_105, ml_106, ml_107, ml_108, ml_109, ml_110, ml_111, ml_112, ml_113, ml_114, ml_115, ml_120, ml_127, ml_176, ml_180, ml_200, ml_254, ml_255, ml_256, ml_300, ml_728, ml_832, ml_65536, q1, e0]
    · simp (discharger := omega) only [f_X10_stainCount, f_X10_asked, f_X10_asked_J14, nI_add, mt_mul, nI_clamp, nI_leI, nI_ltI, nI_eq, mt_in_t, mt_b1, mt_b2, mt_b3, mt_b4, mt_l, mt_g, ↓reduceIte, Nat.reduceEqDiff, Nat.reduceLeDiff, ml_0, ml_1, ml_2, ml_3, ml_4, ml_5, ml_6, ml_7, ml_8, ml_9, ml_10, ml_11, ml_12, ml_13, ml_14, ml_16, ml_31, ml_32, ml_40, ml_42, ml_48, ml_50, ml_57, ml_59, ml_60, ml_63, ml_98, ml_100, ml_103, ml_104, ml_105, ml_106, ml_107, ml_108, ml_109, ml_110, ml_111, ml_112, ml_113, ml_114, ml_115, ml_120, ml_127, ml_176, ml_180, ml_200, ml_254, ml_255, ml_256, ml_300, ml_728, ml_832, ml_65536, q2, mt_uy, e1, Nat.le_refl, mr_bits]
  · have hb : ms_pc 0 = 0 := by decide
    refine mt_A_no (k := 1) (t := 1) (r := nI 0) (r2 := nI 0) hR ?_ ?_ ⟨rfl, rfl⟩
    · simp (discharger := omega) only [f_X9_stainCount, f_X9_requireGarment, nI_add, mt_mul, nI_clamp, nI_leI, nI_ltI, nI_eq, mt_in_t, mt_b1, mt_b2, mt_b3, mt_b4, mt_l, mt_g, ↓reduceIte, Nat.reduceEqDiff, Nat.reduceLeDiff, ml_0, ml_1, ml_2, ml_3, ml_4, ml_5, ml_6, ml_7, ml_8, ml_9, ml_10, ml_11, ml_12, ml_13, ml_14, ml_16, ml_31, ml_32, ml_40, ml_42, ml_48, ml_50, ml_57, ml_59, ml_60, ml_63, ml_98, ml_100, ml_103, ml_104, ml_105, ml_106, ml_107, ml_108, ml_109, ml_110, ml_111, ml_112, ml_113, ml_114, ml_115, ml_120, ml_127, ml_176, ml_180, ml_200, ml_254, ml_255, ml_256, ml_300, ml_728, ml_832, ml_65536, q1]
    · simp (discharger := omega) only [f_X10_stainCount, f_X10_asked, f_X10_asked_J14, nI_add, mt_mul, nI_clamp, nI_leI, nI_ltI, nI_eq, mt_in_t, mt_b1, mt_b2, mt_b3, mt_b4, mt_l, mt_g, ↓reduceIte, Nat.reduceEqDiff, Nat.reduceLeDiff, ml_0, ml_1, ml_2, ml_3, ml_4, ml_5, ml_6, ml_7, ml_8, ml_9, ml_10, ml_11, ml_12, ml_13, ml_14, ml_16, ml_31, ml_32, ml_40, ml_42, ml_48, ml_50, ml_57, ml_59, ml_60, ml_63, ml_98, ml_100, ml_103, ml_104, ml_105, ml_106, ml_107, ml_108, ml_109, ml_110, ml_111, ml_112, ml_113, ml_114, ml_115, ml_120, ml_127, ml_176, ml_180, ml_200, ml_254, ml_255, ml_256, ml_300, ml_728, ml_832, ml_65536, q2, mt_uy, mr_bits, hb]
theorem mt_sign1 : ∀ p, p < 4 → f_X9_placeSign (fun _ _ _ => 0) (nI p) = some (nI (if p = 0 then 98 else if p = 3 then 120 else 47 + p)) ∧ fw_ch (nI (if p = 0 then 98 else if p = 3 then 120 else 47 + p)) = true ∧ f_J0_charAt_5068e (fun _ _ _ => 0) 7 (nI p) = some (nI (if p = 0 then 98 else if p = 3 then 120 else 47 + p)) := by decide +kernel
theorem pc_place (hR : mt_R B μ) (x : Int32) : mt_A B Eq mt_e1 (f_X9_place μ x) (fun m => f_X10_place m x) := by
  obtain ⟨σ, hC, hM, hok⟩ := hR.1
  have hk := hok.1
  have h16 := hk.1
  rcases mt_gar (B := B) hC hM hk x with ⟨g, hg, rfl, q1, q2⟩ | ⟨q1, q2⟩
  · have e0 : μ 0 5 g = nI (σ (4 + 6 * g + 4)) := mt_C_g hC (w := 4) (by decide) hg
    have e1 := mr_of (mt_M_t (t := 0) hM (by decide)) (g := g) (w := 4) (by omega) (by decide)
    obtain ⟨s1, s2, s3⟩ := mt_sign1 _ (hk.2 g hg).2.2.2.2
    generalize hv : (if σ (4 + 6 * g + 4) = 0 then 98 else if σ (4 + 6 * g + 4) = 3 then 120 else 47 + σ (4 + 6 * g + 4)) = v at s1 s2 s3
    have s1' : f_X9_placeSign μ (nI (σ (4 + 6 * g + 4))) = some (nI v) := s1
    have s3' : f_J0_charAt_5068e (fw_u μ 0 18 0 (nI 0)) 7 (nI (σ (4 + 6 * g + 4))) = some (nI v) := s3
    refine mt_A_ok (r := nI v) (r2 := nI v) hR ?_ ?_ rfl
    · simp (discharger := omega) only [f_X9_place, f_X9_requireGarment, nI_add, mt_mul, nI_clamp, nI_leI, nI_ltI, nI_eq, mt_in_t, mt_b1, mt_b2, mt_b3, mt_b4, mt_l, mt_g, ↓reduceIte, Nat.reduceEqDiff, Nat.reduceLeDiff, ml_0, ml_1, ml_2, ml_3, ml_4, ml_5, ml_6, ml_7, ml_8, ml_9, ml_10, ml_11, ml_12, ml_13, ml_14, ml_16, ml_31, ml_32, ml_40, ml_42, ml_48, ml_50, ml_57, ml_59, ml_60, ml_63, ml_98, ml_100, ml_103, ml_104, ml_105, ml_106, ml_107, ml_108, ml_109, ml_110, ml_111, ml_112, ml_113, ml_114, ml_115, ml_120, ml_127, ml_176, ml_180, ml_200, ml_254, ml_255, ml_256, ml_300, ml_728, ml_832, ml_65536, q1, e0, s1', s2]
    · simp (discharger := omega) only [f_X10_place, f_X10_place_J14, nI_add, mt_mul, nI_clamp, nI_leI, nI_ltI, nI_eq, mt_in_t, mt_b1, mt_b2, mt_b3, mt_b4, mt_l, mt_g, ↓reduceIte, Nat.reduceEqDiff, Nat.reduceLeDiff, ml_0, ml_1, ml_2, ml_3, ml_4, ml_5, ml_6, ml_7, ml_8, ml_9, ml_10, ml_11, ml_12, ml_13, ml_14, ml_16, ml_31, ml_32, ml_40, ml_42, ml_48, ml_50, ml_57, ml_59, ml_60, ml_63, ml_98, ml_100, ml_103, ml_104, ml_105, ml_106, ml_107, ml_108, ml_109, ml_110, ml_111, ml_112, ml_113, ml_114, ml_115, ml_120, ml_127, ml_176, ml_180, ml_200, ml_254, ml_255, ml_256, ml_300, ml_728, ml_832, ml_65536, q2, mt_uy, e1, Nat.le_refl, s3', s2]
  · refine mt_A_no (k := 1) (t := 1) (r := nI 0) (r2 := nI 0) hR ?_ ?_ ⟨rfl, rfl⟩
    · simp (discharger := omega) only [f_X9_place, f_X9_requireGarment, nI_add, mt_mul, nI_clamp, nI_leI, nI_ltI, nI_eq, mt_in_t, mt_b1, mt_b2, mt_b3, mt_b4, mt_l, mt_g, ↓reduceIte, Nat.reduceEqDiff, Nat.reduceLeDiff, ml_0, ml_1, ml_2, ml_3, ml_4, ml_5, ml_6, ml_7, ml_8, ml_9, ml_10, ml_11, ml_12, ml_13, ml_14, ml_16, ml_31, ml_32, ml_40, ml_42, ml_48, ml_50, ml_57, ml_59, ml_60, ml_63, ml_98, ml_100, ml_103, ml_104, ml_105, ml_106, ml_107, ml_108, ml_109, ml_110, ml_111, ml_112, ml_113, ml_114, ml_115, ml_120, ml_127, ml_176, ml_180, ml_200, ml_254, ml_255, ml_256, ml_300, ml_728, ml_832, ml_65536, q1]
    · simp (discharger := omega) only [f_X10_place, f_X10_place_J14, nI_add, mt_mul, nI_clamp, nI_leI, nI_ltI, nI_eq, mt_in_t, mt_b1, mt_b2, mt_b3, mt_b4, mt_l, mt_g, ↓reduceIte, Nat.reduceEqDiff, Nat.reduceLeDiff, ml_0, ml_1, ml_2, ml_3, ml_4, ml_5, ml_6, ml_7, ml_8, ml_9, ml_10, ml_11, ml_12, ml_13, ml_14, ml_16, ml_31, ml_32, ml_40, ml_42, ml_48, ml_50, ml_57, ml_59, ml_60, ml_63, ml_98, ml_100, ml_103, ml_104, ml_105, ml_106, ml_107, ml_108, ml_109, ml_110, ml_111, ml_112, ml_113, ml_114, ml_115, ml_120, ml_127, ml_176, ml_180, ml_200, ml_254, ml_255, ml_256, ml_300, ml_728, ml_832, ml_65536, q2, mt_uy]
theorem pc_packed (hR : mt_R B μ) (x : Int32) : mt_A B Eq mt_e1 (f_X9_packed μ x) (fun m => f_X10_packed m x) := by
  obtain ⟨σ, hC, hM, hok⟩ := hR.1
  have hk := hok.1
  have h16 := hk.1
  rcases mt_gar (B := B) hC hM hk x with ⟨g, hg, rfl, q1, q2⟩ | ⟨q1, q2⟩
  · have c0 : μ 0 1 g = nI (σ (4 + 6 * g + 0)) := mt_C_g hC (w := 0) (by decide) hg
    have c1 : μ 0 2 g = nI (σ (4 + 6 * g + 1)) := mt_C_g hC (w := 1) (by decide) hg
    have c2 : μ 0 3 g = nI (σ (4 + 6 * g + 2)) := mt_C_g hC (w := 2) (by decide) hg
    have c3 : μ 0 4 g = nI (σ (4 + 6 * g + 3)) := mt_C_g hC (w := 3) (by decide) hg
    have c4 : μ 0 5 g = nI (σ (4 + 6 * g + 4)) := mt_C_g hC (w := 4) (by decide) hg
    have c5 : μ 0 6 g = nI (σ (4 + 6 * g + 5)) := mt_C_g hC (w := 5) (by decide) hg
    have r0 := mr_of (mt_M_t (t := 0) hM (by decide)) (g := g) (w := 0) (by omega) (by decide)
    have r1 := mr_of (mt_M_t (t := 0) hM (by decide)) (g := g) (w := 1) (by omega) (by decide)
    have r2 := mr_of (mt_M_t (t := 0) hM (by decide)) (g := g) (w := 2) (by omega) (by decide)
    have r3 := mr_of (mt_M_t (t := 0) hM (by decide)) (g := g) (w := 3) (by omega) (by decide)
    have r4 := mr_of (mt_M_t (t := 0) hM (by decide)) (g := g) (w := 4) (by omega) (by decide)
    have r5 := mr_of (mt_M_t (t := 0) hM (by decide)) (g := g) (w := 5) (by omega) (by decide)
    have b1 := (hk.2 g hg).2.1
    refine mt_A_ok (r := ((nI (σ (4 + 6 * g + 5))).toInt64 <<< ((nI 16).toInt64 &&& (63 : Int64))) ||| (((((nI (σ (4 + 6 * g + 3)) ||| (nI (σ (4 + 6 * g + 2)) <<< (nI 8 &&& nI 31))) ||| (nI (σ (4 + 6 * g + 0)) <<< (nI 11 &&& nI 31))) ||| (nI (σ (4 + 6 * g + 1)) <<< (nI 13 &&& nI 31))) ||| (nI (σ (4 + 6 * g + 4)) <<< (nI 14 &&& nI 31)))).toInt64) hR ?_ ?_ (Int64.or_comm _ _)
    · have hc : σ (4 + 6 * g + 1) = 0 ∨ σ (4 + 6 * g + 1) = 1 := by omega
      rcases hc with hc | hc <;> simp (discharger := omega) only [f_X9_packed, f_X9_requireGarment, f_X7_pack, f_X7_pack_J14, nI_add, mt_mul, nI_clamp, nI_leI, nI_ltI, nI_eq, mt_in_t, mt_b1, mt_b2, mt_b3, mt_b4, mt_l, mt_g, ↓reduceIte, Nat.reduceEqDiff, Nat.reduceLeDiff, ml_0, ml_1, ml_2, ml_3, ml_4, ml_5, ml_6, ml_7, ml_8, ml_9, ml_10, ml_11, ml_12, ml_13, ml_14, ml_16, ml_31, ml_32, ml_40, ml_42, ml_48, ml_50, ml_57, ml_59, ml_60, ml_63, ml_98, ml_100, ml_103, ml_104, ml_105, ml_106, ml_107, ml_108, ml_109, ml_110, ml_111, ml_112, ml_113, ml_114, ml_115, ml_120, ml_127, ml_176, ml_180, ml_200, ml_254, ml_255, ml_256, ml_300, ml_728, ml_832, ml_65536, q1, c0, c1, c2, c3, c4, c5, hc]
    · simp (discharger := omega) only [f_X10_packed, f_X10_packed_J14, nI_add, mt_mul, nI_clamp, nI_leI, nI_ltI, nI_eq, mt_in_t, mt_b1, mt_b2, mt_b3, mt_b4, mt_l, mt_g, ↓reduceIte, Nat.reduceEqDiff, Nat.reduceLeDiff, ml_0, ml_1, ml_2, ml_3, ml_4, ml_5, ml_6, ml_7, ml_8, ml_9, ml_10, ml_11, ml_12, ml_13, ml_14, ml_16, ml_31, ml_32, ml_40, ml_42, ml_48, ml_50, ml_57, ml_59, ml_60, ml_63, ml_98, ml_100, ml_103, ml_104, ml_105, ml_106, ml_107, ml_108, ml_109, ml_110, ml_111, ml_112, ml_113, ml_114, ml_115, ml_120, ml_127, ml_176, ml_180, ml_200, ml_254, ml_255, ml_256, ml_300, ml_728, ml_832, ml_65536, q2, mt_uy, r0, r1, r2, r3, r4, r5, Nat.le_refl]
  · refine mt_A_no (k := 1) (t := 1) (r := 0) (r2 := 0) hR ?_ ?_ ⟨rfl, rfl⟩
    · simp (discharger := omega) only [f_X9_packed, f_X9_requireGarment, nI_add, mt_mul, nI_clamp, nI_leI, nI_ltI, nI_eq, mt_in_t, mt_b1, mt_b2, mt_b3, mt_b4, mt_l, mt_g, ↓reduceIte, Nat.reduceEqDiff, Nat.reduceLeDiff, ml_0, ml_1, ml_2, ml_3, ml_4, ml_5, ml_6, ml_7, ml_8, ml_9, ml_10, ml_11, ml_12, ml_13, ml_14, ml_16, ml_31, ml_32, ml_40, ml_42, ml_48, ml_50, ml_57, ml_59, ml_60, ml_63, ml_98, ml_100, ml_103, ml_104, ml_105, ml_106, ml_107, ml_108, ml_109, ml_110, ml_111, ml_112, ml_113, ml_114, ml_115, ml_120, ml_127, ml_176, ml_180, ml_200, ml_254, ml_255, ml_256, ml_300, ml_728, ml_832, ml_65536, q1]
    · simp (discharger := omega) only [f_X10_packed, f_X10_packed_J14, nI_add, mt_mul, nI_clamp, nI_leI, nI_ltI, nI_eq, mt_in_t, mt_b1, mt_b2, mt_b3, mt_b4, mt_l, mt_g, ↓reduceIte, Nat.reduceEqDiff, Nat.reduceLeDiff, ml_0, ml_1, ml_2, ml_3, ml_4, ml_5, ml_6, ml_7, ml_8, ml_9, ml_10, ml_11, ml_12, ml_13, ml_14, ml_16, ml_31, ml_32, ml_40, ml_42, ml_48, ml_50, ml_57, ml_59, ml_60, ml_63, ml_98, ml_100, ml_103, ml_104, ml_105, ml_106, ml_107, ml_108, ml_109, ml_110, ml_111, ml_112, ml_113, ml_114, ml_115, ml_120, ml_127, ml_176, ml_180, ml_200, ml_254, ml_255, ml_256, ml_300, ml_728, ml_832, ml_65536, q2, mt_uy]
def mt_e3 (k t : Nat) : Prop := (k = 1 ∧ t = 1) ∨ (k = 4 ∧ t = 2) ∨ (k = 5 ∧ t = 3)
theorem pc_partner (hR : mt_R B μ) (x : Int32) : mt_A B Eq mt_e3 (f_X9_partner μ x) (fun m => f_X10_partner m x) := by
  obtain ⟨σ, hC, hM, hok⟩ := hR.1
  have hk := hok.1
  have h16 := hk.1
  rcases mt_gar (B := B) hC hM hk x with ⟨g, hg, rfl, q1, q2⟩ | ⟨q1, q2⟩
  · have c1 : μ 0 2 g = nI (σ (4 + 6 * g + 1)) := mt_C_g hC (w := 1) (by decide) hg
    have r1 := mr_of hM (g := g) (w := 1) (by omega) (by decide)
    have c := mc_otherSock hC hk hg
    have r := mr_other hM hk hg
    have r' := mr_other (mt_M_t (t := 0) hM (by decide)) hk hg
    have b1 := (hk.2 g hg).2.1
    by_cases p : σ (4 + 6 * g + 1) = 0
    · refine mt_A_no (k := 4) (t := 2) (r := nI 0) (r2 := nI 0) hR ?_ ?_ (Or.inr (Or.inl ⟨rfl, rfl⟩))
      · simp (discharger := omega) only [f_X9_partner, f_X9_requireGarment, nI_add, mt_mul, nI_clamp, nI_leI, nI_ltI, nI_eq, mt_in_t, mt_b1, mt_b2, mt_b3, mt_b4, mt_l, mt_g, ↓reduceIte, Nat.reduceEqDiff, Nat.reduceLeDiff, ml_0, ml_1, ml_2, ml_3, ml_4, ml_5, ml_6, ml_7, ml_8, ml_9, ml_10, ml_11, ml_12, ml_13, ml_14, ml_16, ml_31, ml_32, ml_40, ml_42, ml_48, ml_50, ml_57, ml_59, ml_60, ml_63, ml_98, ml_100, ml_103, ml_104, ml_105, ml_106, ml_107, ml_108, ml_109, ml_110, ml_111, ml_112, ml_113, ml_114, ml_115, ml_120, ml_127, ml_176, ml_180, ml_200, ml_254, ml_255, ml_256, ml_300, ml_728, ml_832, ml_65536, q1, c1, p]
      · simp (discharger := omega) only [f_X10_partner, f_X10_partner_J40, nI_add, mt_mul, nI_clamp, nI_leI, nI_ltI, nI_eq, mt_in_t, mt_b1, mt_b2, mt_b3, mt_b4, mt_l, mt_g, ↓reduceIte, Nat.reduceEqDiff, Nat.reduceLeDiff, ml_0, ml_1, ml_2, ml_3, ml_4, ml_5, ml_6, ml_7, ml_8, ml_9, ml_10, ml_11, ml_12, ml_13, ml_14, ml_16, ml_31, ml_32, ml_40, ml_42, ml_48, ml_50, ml_57, ml_59, ml_60, ml_63, ml_98, ml_100, ml_103, ml_104, ml_105, ml_106, ml_107, ml_108, ml_109, ml_110, ml_111, ml_112, ml_113, ml_114, ml_115, ml_120, ml_127, ml_176, ml_180, ml_200, ml_254, ml_255, ml_256, ml_300, ml_728, ml_832, ml_65536, q2, r1, p, mt_uy]
    · cases ho : (ms_o σ (σ (4 + 6 * g + 0)) (σ (4 + 6 * g + 2)) g (σ 0)).2 with
      | none =>
        rw [ho] at c r
        have c' : f_X6_otherSock μ 0 (nI g) = some (nI 4294967295) := c
        have r'' : f_X10_other μ (nI g) = some (nI 4294967295) := r
        have n1 := mt_neg2
        refine mt_A_no (k := 5) (t := 3) (r := nI 0) (r2 := nI 0) hR ?_ ?_ (Or.inr (Or.inr ⟨rfl, rfl⟩))
        · simp (discharger := omega) only [f_X9_partner, f_X9_requireGarment, nI_add, mt_mul, nI_clamp, nI_leI, nI_ltI, nI_eq, mt_in_t, mt_b1, mt_b2, mt_b3, mt_b4, mt_l, mt_g, ↓reduceIte, Nat.reduceEqDiff, Nat.reduceLeDiff, ml_0, ml_1, ml_2, ml_3, ml_4, ml_5, ml_6, ml_7, ml_8, ml_9, ml_10, ml_11, ml_12, ml_13, ml_14, ml_16, ml_31, ml_32, ml_40, ml_42, ml_48, ml_50, ml_57, ml_59, ml_60, ml_63, ml_98, ml_100, ml_103, ml_104, ml_105, ml_106, ml_107, ml_108, ml_109, ml_110, ml_111, ml_112, ml_113, ml_114, ml_115, ml_120, ml_127, ml_176, ml_180, ml_200, ml_254, ml_255, ml_256, ml_300, ml_728, ml_832, ml_65536, q1, c1, p, c', n1]
        · simp (discharger := omega) only [f_X10_partner, f_X10_partner_J40, nI_add, mt_mul, nI_clamp, nI_leI, nI_ltI, nI_eq, mt_in_t, mt_b1, mt_b2, mt_b3, mt_b4, mt_l, mt_g, ↓reduceIte, Nat.reduceEqDiff, Nat.reduceLeDiff, ml_0, ml_1, ml_2, ml_3, ml_4, ml_5, ml_6, ml_7, ml_8, ml_9, ml_10, ml_11, ml_12, ml_13, ml_14, ml_16, ml_31, ml_32, ml_40, ml_42, ml_48, ml_50, ml_57, ml_59, ml_60, ml_63, ml_98, ml_100, ml_103, ml_104, ml_105, ml_106, ml_107, ml_108, ml_109, ml_110, ml_111, ml_112, ml_113, ml_114, ml_115, ml_120, ml_127, ml_176, ml_180, ml_200, ml_254, ml_255, ml_256, ml_300, ml_728, ml_832, ml_65536, q2, r1, p, r'', ml_m1, mt_uy]
      | some q =>
        have hq : q < 16 := by
          by_cases hp : ms_pr σ (σ (4 + 6 * g + 0)) (σ (4 + 6 * g + 2)) g
          · by_cases he : ms_kk σ (σ (4 + 6 * g + 0)) (σ (4 + 6 * g + 2)) g % 2 = 0
            · have hB := ms_o_B hp he (σ 0 - (g + 1))
              rw [show g + 1 + (σ 0 - (g + 1)) = σ 0 by omega] at hB
              rcases hB with ⟨h1, h2⟩ | ⟨h1, w, r, h2, h3, h4⟩
              · rw [h2] at ho; cases ho
              · rw [h2] at ho; cases ho; omega
            · obtain ⟨w, h1, h2, h3⟩ := ms_o_A (σ := σ) (c := σ (4 + 6 * g + 0)) (d := σ (4 + 6 * g + 2)) (g := g) g (Nat.le_refl g)
              cases w with
              | none => exact absurd (h2.mp rfl) he
              | some y =>
                have hy := h3 y rfl
                rw [ms_o_le (ms_o_2 h1 hp (by omega)) (by omega)] at ho
                cases ho
                omega
          · rw [(ms_o_no hp (σ 0)).1] at ho
            cases ho
        rw [ho] at c r r'
        have c' : f_X6_otherSock μ 0 (nI g) = some (nI q) := c
        have r'' : f_X10_other μ (nI g) = some (nI q) := r
        have r3 : f_X10_other (fw_u μ 0 18 0 (nI 0)) (nI g) = some (nI q) := r'
        have n1 := mt_neg3 q hq
        refine mt_A_ok (r := nI q) (r2 := nI q) hR ?_ ?_ rfl
        · simp (discharger := omega) only [f_X9_partner, f_X9_requireGarment, nI_add, mt_mul, nI_clamp, nI_leI, nI_ltI, nI_eq, mt_in_t, mt_b1, mt_b2, mt_b3, mt_b4, mt_l, mt_g, ↓reduceIte, Nat.reduceEqDiff, Nat.reduceLeDiff, ml_0, ml_1, ml_2, ml_3, ml_4, ml_5, ml_6, ml_7, ml_8, ml_9, ml_10, ml_11, ml_12, ml_13, ml_14, ml_16, ml_31, ml_32, ml_40, ml_42, ml_48, ml_50, ml_57, ml_59, ml_60, ml_63, ml_98, ml_100, ml_103, ml_104, ml_105, ml_106, ml_107, ml_108, ml_109, ml_110, ml_111, ml_112, ml_113, ml_114, ml_115, ml_120, ml_127, ml_176, ml_180, ml_200, ml_254, ml_255, ml_256, ml_300, ml_728, ml_832, ml_65536, q1, c1, p, c', Nat.zero_le]
        · simp (discharger := omega) only [f_X10_partner, f_X10_partner_J40, nI_add, mt_mul, nI_clamp, nI_leI, nI_ltI, nI_eq, mt_in_t, mt_b1, mt_b2, mt_b3, mt_b4, mt_l, mt_g, ↓reduceIte, Nat.reduceEqDiff, Nat.reduceLeDiff, ml_0, ml_1, ml_2, ml_3, ml_4, ml_5, ml_6, ml_7, ml_8, ml_9, ml_10, ml_11, ml_12, ml_13, ml_14, ml_16, ml_31, ml_32, ml_40, ml_42, ml_48, ml_50, ml_57, ml_59, ml_60, ml_63, ml_98, ml_100, ml_103, ml_104, ml_105, ml_106, ml_107, ml_108, ml_109, ml_110, ml_111, ml_112, ml_113, ml_114, ml_115, ml_120, ml_127, ml_176, ml_180, ml_200, ml_254, ml_255, ml_256, ml_300, ml_728, ml_832, ml_65536, q2, r1, p, r'', r3, n1, ml_m1, mt_uy, Nat.le_refl]
  · refine mt_A_no (k := 1) (t := 1) (r := nI 0) (r2 := nI 0) hR ?_ ?_ (Or.inl ⟨rfl, rfl⟩)
    · simp (discharger := omega) only [f_X9_partner, f_X9_requireGarment, nI_add, mt_mul, nI_clamp, nI_leI, nI_ltI, nI_eq, mt_in_t, mt_b1, mt_b2, mt_b3, mt_b4, mt_l, mt_g, ↓reduceIte, Nat.reduceEqDiff, Nat.reduceLeDiff, ml_0, ml_1, ml_2, ml_3, ml_4, ml_5, ml_6, ml_7, ml_8, ml_9, ml_10, ml_11, ml_12, ml_13, ml_14, ml_16, ml_31, ml_32, ml_40, ml_42, ml_48, ml_50, ml_57, ml_59, ml_60, ml_63, ml_98, ml_100, ml_103, ml_104, ml_105, ml_106, ml_107, ml_108, ml_109, ml_110, ml_111, ml_112, ml_113, ml_114, ml_115, ml_120, ml_127, ml_176, ml_180, ml_200, ml_254, ml_255, ml_256, ml_300, ml_728, ml_832, ml_65536, q1]
    · simp (discharger := omega) only [f_X10_partner, f_X10_partner_J40, nI_add, mt_mul, nI_clamp, nI_leI, nI_ltI, nI_eq, mt_in_t, mt_b1, mt_b2, mt_b3, mt_b4, mt_l, mt_g, ↓reduceIte, Nat.reduceEqDiff, Nat.reduceLeDiff, ml_0, ml_1, ml_2, ml_3, ml_4, ml_5, ml_6, ml_7, ml_8, ml_9, ml_10, ml_11, ml_12, ml_13, ml_14, ml_16, ml_31, ml_32, ml_40, ml_42, ml_48, ml_50, ml_57, ml_59, ml_60, ml_63, ml_98, ml_100, ml_103, ml_104, ml_105, ml_106, ml_107, ml_108, ml_109, ml_110, ml_111, ml_112, ml_113, ml_114, ml_115, ml_120, ml_127, ml_176, ml_180, ml_200, ml_254, ml_255, ml_256, ml_300, ml_728, ml_832, ml_65536, q2, mt_uy]
theorem pc_pairCount (hR : mt_R B μ) (x : Int32) : mt_A B Eq mt_e1 (f_X9_pairCount μ x) (fun m => f_X10_pairCount m x) := by
  obtain ⟨σ, hC, hM, hok⟩ := hR.1
  have hk := hok.1
  rcases mt_cli μ μ x with ⟨c, hc, rfl, q1, q2⟩ | ⟨q1, q2⟩
  · have e0 := mc_formed hC hk hc
    have e1 := mr_pairs (mt_M_t (t := 0) hM (by decide)) hk hc
    refine mt_A_ok (r := nI (ms_pairs σ c)) (r2 := nI (ms_pairs σ c)) hR ?_ ?_ rfl
    · simp (discharger := omega) only [f_X9_pairCount, f_X9_requireClient, nI_add, mt_mul, nI_clamp, nI_leI, nI_ltI, nI_eq, mt_in_t, mt_b1, mt_b2, mt_b3, mt_b4, mt_l, mt_g, ↓reduceIte, Nat.reduceEqDiff, Nat.reduceLeDiff, ml_0, ml_1, ml_2, ml_3, ml_4, ml_5, ml_6, ml_7, ml_8, ml_9, ml_10, ml_11, ml_12, ml_13, ml_14, ml_16, ml_31, ml_32, ml_40, ml_42, ml_48, ml_50, ml_57, ml_59, ml_60, ml_63, ml_98, ml_100, ml_103, ml_104, ml_105, ml_106, ml_107, ml_108, ml_109, ml_110, ml_111, ml_112, ml_113, ml_114, ml_115, ml_120, ml_127, ml_176, ml_180, ml_200, ml_254, ml_255, ml_256, ml_300, ml_728, ml_832, ml_65536, q1, e0]
    · simp (discharger := omega) only [f_X10_pairCount, f_X10_pairCount_J13, nI_add, mt_mul, nI_clamp, nI_leI, nI_ltI, nI_eq, mt_in_t, mt_b1, mt_b2, mt_b3, mt_b4, mt_l, mt_g, ↓reduceIte, Nat.reduceEqDiff, Nat.reduceLeDiff, ml_0, ml_1, ml_2, ml_3, ml_4, ml_5, ml_6, ml_7, ml_8, ml_9, ml_10, ml_11, ml_12, ml_13, ml_14, ml_16, ml_31, ml_32, ml_40, ml_42, ml_48, ml_50, ml_57, ml_59, ml_60, ml_63, ml_98, ml_100, ml_103, ml_104, ml_105, ml_106, ml_107, ml_108, ml_109, ml_110, ml_111, ml_112, ml_113, ml_114, ml_115, ml_120, ml_127, ml_176, ml_180, ml_200, ml_254, ml_255, ml_256, ml_300, ml_728, ml_832, ml_65536, q2, mt_uy, e1, Nat.le_refl]
  · refine mt_A_no (k := 1) (t := 1) (r := nI 0) (r2 := nI 0) hR ?_ ?_ ⟨rfl, rfl⟩
    · simp (discharger := omega) only [f_X9_pairCount, f_X9_requireClient, nI_add, mt_mul, nI_clamp, nI_leI, nI_ltI, nI_eq, mt_in_t, mt_b1, mt_b2, mt_b3, mt_b4, mt_l, mt_g, ↓reduceIte, Nat.reduceEqDiff, Nat.reduceLeDiff, ml_0, ml_1, ml_2, ml_3, ml_4, ml_5, ml_6, ml_7, ml_8, ml_9, ml_10, ml_11, ml_12, ml_13, ml_14, ml_16, ml_31, ml_32, ml_40, ml_42, ml_48, ml_50, ml_57, ml_59, ml_60, ml_63, ml_98, ml_100, ml_103, ml_104, ml_105, ml_106, ml_107, ml_108, ml_109, ml_110, ml_111, ml_112, ml_113, ml_114, ml_115, ml_120, ml_127, ml_176, ml_180, ml_200, ml_254, ml_255, ml_256, ml_300, ml_728, ml_832, ml_65536, q1]
    · simp (discharger := omega) only [f_X10_pairCount, f_X10_pairCount_J13, nI_add, mt_mul, nI_clamp, nI_leI, nI_ltI, nI_eq, mt_in_t, mt_b1, mt_b2, mt_b3, mt_b4, mt_l, mt_g, ↓reduceIte, Nat.reduceEqDiff, Nat.reduceLeDiff, ml_0, ml_1, ml_2, ml_3, ml_4, ml_5, ml_6, ml_7, ml_8, ml_9, ml_10, ml_11, ml_12, ml_13, ml_14, ml_16, ml_31, ml_32, ml_40, ml_42, ml_48, ml_50, ml_57, ml_59, ml_60, ml_63, ml_98, ml_100, ml_103, ml_104, ml_105, ml_106, ml_107, ml_108, ml_109, ml_110, ml_111, ml_112, ml_113, ml_114, ml_115, ml_120, ml_127, ml_176, ml_180, ml_200, ml_254, ml_255, ml_256, ml_300, ml_728, ml_832, ml_65536, q2, mt_uy]
theorem pc_pairCountByParity (hR : mt_R B μ) (x : Int32) : mt_A B Eq mt_e1 (f_X9_pairCountByParity μ x) (fun m => f_X10_pairCountByParity m x) := by
  obtain ⟨σ, hC, hM, hok⟩ := hR.1
  have hk := hok.1
  rcases mt_cli μ μ x with ⟨c, hc, rfl, q1, q2⟩ | ⟨q1, q2⟩
  · have e0 := mc_byParity hC hk hc
    have e1 := mr_pairs (mt_M_t (t := 0) hM (by decide)) hk hc
    refine mt_A_ok (r := nI (ms_pairs σ c)) (r2 := nI (ms_pairs σ c)) hR ?_ ?_ rfl
    · simp (discharger := omega) only [f_X9_pairCountByParity, f_X9_requireClient, nI_add, mt_mul, nI_clamp, nI_leI, nI_ltI, nI_eq, mt_in_t, mt_b1, mt_b2, mt_b3, mt_b4, mt_l, mt_g, ↓reduceIte, Nat.reduceEqDiff, Nat.reduceLeDiff, ml_0, ml_1, ml_2, ml_3, ml_4, ml_5, ml_6, ml_7, ml_8, ml_9, ml_10, ml_11, ml_12, ml_13, ml_14, ml_16, ml_31, ml_32, ml_40, ml_42, ml_48, ml_50, ml_57, ml_59, ml_60, ml_63, ml_98, ml_100, ml_103, ml_104, ml_105, ml_106, ml_107, ml_108, ml_109, ml_110, ml_111, ml_112, ml_113, ml_114, ml_115, ml_120, ml_127, ml_176, ml_180, ml_200, ml_254, ml_255, ml_256, ml_300, ml_728, ml_832, ml_65536, q1, e0]
    · simp (discharger := omega) only [f_X10_pairCountByParity, f_X10_pairCount, f_X10_pairCount_J13, nI_add, mt_mul, nI_clamp, nI_leI, nI_ltI, nI_eq, mt_in_t, mt_b1, mt_b2, mt_b3, mt_b4, mt_l, mt_g, ↓reduceIte, Nat.reduceEqDiff, Nat.reduceLeDiff, ml_0, ml_1, ml_2, ml_3, ml_4, ml_5, ml_6, ml_7, ml_8, ml_9, ml_10, ml_11, ml_12, ml_13, ml_14, ml_16, ml_31, ml_32, ml_40, ml_42, ml_48, ml_50, ml_57, ml_59, ml_60, ml_63, ml_98, ml_100, ml_103, ml_104, ml_105, ml_106, ml_107, ml_108, ml_109, ml_110, ml_111, ml_112, ml_113, ml_114, ml_115, ml_120, ml_127, ml_176, ml_180, ml_200, ml_254, ml_255, ml_256, ml_300, ml_728, ml_832, ml_65536, q2, mt_uy, e1, Nat.le_refl]
  · refine mt_A_no (k := 1) (t := 1) (r := nI 0) (r2 := nI 0) hR ?_ ?_ ⟨rfl, rfl⟩
    · simp (discharger := omega) only [f_X9_pairCountByParity, f_X9_requireClient, nI_add, mt_mul, nI_clamp, nI_leI, nI_ltI, nI_eq, mt_in_t, mt_b1, mt_b2, mt_b3, mt_b4, mt_l, mt_g, ↓reduceIte, Nat.reduceEqDiff, Nat.reduceLeDiff, ml_0, ml_1, ml_2, ml_3, ml_4, ml_5, ml_6, ml_7, ml_8, ml_9, ml_10, ml_11, ml_12, ml_13, ml_14, ml_16, ml_31, ml_32, ml_40, ml_42, ml_48, ml_50, ml_57, ml_59, ml_60, ml_63, ml_98, ml_100, ml_103, ml_104, ml_105, ml_106, ml_107, ml_108, ml_109, ml_110, ml_111, ml_112, ml_113, ml_114, ml_115, ml_120, ml_127, ml_176, ml_180, ml_200, ml_254, ml_255, ml_256, ml_300, ml_728, ml_832, ml_65536, q1]
    · simp (discharger := omega) only [f_X10_pairCountByParity, f_X10_pairCount, f_X10_pairCount_J13, nI_add, mt_mul, nI_clamp, nI_leI, nI_ltI, nI_eq, mt_in_t, mt_b1, mt_b2, mt_b3, mt_b4, mt_l, mt_g, ↓reduceIte, Nat.reduceEqDiff, Nat.reduceLeDiff, ml_0, ml_1, ml_2, ml_3, ml_4, ml_5, ml_6, ml_7, ml_8, ml_9, ml_10, ml_11, ml_12, ml_13, ml_14, ml_16, ml_31, ml_32, ml_40, ml_42, ml_48, ml_50, ml_57, ml_59, ml_60, ml_63, ml_98, ml_100, ml_103, ml_104, ml_105, ml_106, ml_107, ml_108, ml_109, ml_110, ml_111, ml_112, ml_113, ml_114, ml_115, ml_120, ml_127, ml_176, ml_180, ml_200, ml_254, ml_255, ml_256, ml_300, ml_728, ml_832, ml_65536, q2, mt_uy]
theorem pc_inBag (hR : mt_R B μ) (x : Int32) : mt_A B Eq mt_e1 (f_X9_inBag μ x) (fun m => f_X10_inBag m x) := by
  obtain ⟨σ, hC, hM, hok⟩ := hR.1
  have hk := hok.1
  have h16 := hk.1
  rcases mt_cli μ μ x with ⟨c, hc, rfl, q1, q2⟩ | ⟨q1, q2⟩
  · have e0 := mc_garmentsInBag hC hk hc
    have hM' := mt_M_t (t := 0) hM (by decide)
    have cn := mt_at hM' (i := 0) (by decide)
    have key : f_X10_inBag_L20 1000 (fw_u μ 0 18 0 (nI 0)) (nI c) (nI 0) (nI 0) = some (fw_u μ 0 18 0 (nI 0), nI (mt_or (fun g => if σ (4 + 6 * g + 4) = 0 ∧ σ (4 + 6 * g + 0) = c then 2 ^ g else 0) (σ 0))) := by
      refine mt_det (fun n (a : Int32) i => f_X10_inBag_L20 n (fw_u μ 0 18 0 (nI 0)) (nI c) a i) (fun i => nI (mt_or (fun g => if σ (4 + 6 * g + 4) = 0 ∧ σ (4 + 6 * g + 0) = c then 2 ^ g else 0) i)) (N := σ 0) ?_ ?_ (n := 1000) (by omega)
      · intro n
        simp (discharger := omega) only [f_X10_inBag_L20, nI_add, mt_mul, nI_clamp, nI_leI, nI_ltI, nI_eq, mt_in_t, mt_b1, mt_b2, mt_b3, mt_b4, mt_l, mt_g, ↓reduceIte, Nat.reduceEqDiff, Nat.reduceLeDiff, ml_0, ml_1, ml_2, ml_3, ml_4, ml_5, ml_6, ml_7, ml_8, ml_9, ml_10, ml_11, ml_12, ml_13, ml_14, ml_16, ml_31, ml_32, ml_40, ml_42, ml_48, ml_50, ml_57, ml_59, ml_60, ml_63, ml_98, ml_100, ml_103, ml_104, ml_105, ml_106, ml_107, ml_108, ml_109, ml_110, ml_111, ml_112, ml_113, ml_114, ml_115, ml_120, ml_127, ml_176, ml_180, ml_200, ml_254, ml_255, ml_256, ml_300, ml_728, ml_832, ml_65536, cn, Nat.le_refl]
      · intro n i hi
        have r0 := mr_of hM' (g := i) (w := 0) (by omega) (by decide)
        have r4 := mr_of hM' (g := i) (w := 4) (by omega) (by decide)
        obtain ⟨b0, -, -, -, b4⟩ := hk.2 i hi
        have hi' : ¬ σ 0 ≤ i := by omega
        by_cases p : σ (4 + 6 * i + 4) = 0
        · by_cases p2 : σ (4 + 6 * i + 0) = c
          · simp (discharger := omega) only [f_X10_inBag_L20, nI_add, mt_mul, nI_clamp, nI_leI, nI_ltI, nI_eq, mt_in_t, mt_b1, mt_b2, mt_b3, mt_b4, mt_l, mt_g, ↓reduceIte, Nat.reduceEqDiff, Nat.reduceLeDiff, ml_0, ml_1, ml_2, ml_3, ml_4, ml_5, ml_6, ml_7, ml_8, ml_9, ml_10, ml_11, ml_12, ml_13, ml_14, ml_16, ml_31, ml_32, ml_40, ml_42, ml_48, ml_50, ml_57, ml_59, ml_60, ml_63, ml_98, ml_100, ml_103, ml_104, ml_105, ml_106, ml_107, ml_108, ml_109, ml_110, ml_111, ml_112, ml_113, ml_114, ml_115, ml_120, ml_127, ml_176, ml_180, ml_200, ml_254, ml_255, ml_256, ml_300, ml_728, ml_832, ml_65536, cn, hi', mt_uy, r0, r4, p, p2, mt_or, mt_shl, fa_or, and_self]
          · simp (discharger := omega) only [f_X10_inBag_L20, nI_add, mt_mul, nI_clamp, nI_leI, nI_ltI, nI_eq, mt_in_t, mt_b1, mt_b2, mt_b3, mt_b4, mt_l, mt_g, ↓reduceIte, Nat.reduceEqDiff, Nat.reduceLeDiff, ml_0, ml_1, ml_2, ml_3, ml_4, ml_5, ml_6, ml_7, ml_8, ml_9, ml_10, ml_11, ml_12, ml_13, ml_14, ml_16, ml_31, ml_32, ml_40, ml_42, ml_48, ml_50, ml_57, ml_59, ml_60, ml_63, ml_98, ml_100, ml_103, ml_104, ml_105, ml_106, ml_107, ml_108, ml_109, ml_110, ml_111, ml_112, ml_113, ml_114, ml_115, ml_120, ml_127, ml_176, ml_180, ml_200, ml_254, ml_255, ml_256, ml_300, ml_728, ml_832, ml_65536, cn, hi', mt_uy, r0, r4, p, p2, mt_or, mt_shl, fa_or, and_false]
        · simp (discharger := omega) only [f_X10_inBag_L20, nI_add, mt_mul, nI_clamp, nI_leI, nI_ltI, nI_eq, mt_in_t, mt_b1, mt_b2, mt_b3, mt_b4, mt_l, mt_g, ↓reduceIte, Nat.reduceEqDiff, Nat.reduceLeDiff, ml_0, ml_1, ml_2, ml_3, ml_4, ml_5, ml_6, ml_7, ml_8, ml_9, ml_10, ml_11, ml_12, ml_13, ml_14, ml_16, ml_31, ml_32, ml_40, ml_42, ml_48, ml_50, ml_57, ml_59, ml_60, ml_63, ml_98, ml_100, ml_103, ml_104, ml_105, ml_106, ml_107, ml_108, ml_109, ml_110, ml_111, ml_112, ml_113, ml_114, ml_115, ml_120, ml_127, ml_176, ml_180, ml_200, ml_254, ml_255, ml_256, ml_300, ml_728, ml_832, ml_65536, cn, hi', mt_uy, r0, r4, p, mt_or, mt_shl, fa_or, false_and]
    refine mt_A_ok (r := nI (mt_or (fun g => if σ (4 + 6 * g + 4) = 0 ∧ σ (4 + 6 * g + 0) = c then 2 ^ g else 0) (σ 0))) hR ?_ ?_ rfl
    · simp (discharger := omega) only [f_X9_inBag, f_X9_requireClient, nI_add, mt_mul, nI_clamp, nI_leI, nI_ltI, nI_eq, mt_in_t, mt_b1, mt_b2, mt_b3, mt_b4, mt_l, mt_g, ↓reduceIte, Nat.reduceEqDiff, Nat.reduceLeDiff, ml_0, ml_1, ml_2, ml_3, ml_4, ml_5, ml_6, ml_7, ml_8, ml_9, ml_10, ml_11, ml_12, ml_13, ml_14, ml_16, ml_31, ml_32, ml_40, ml_42, ml_48, ml_50, ml_57, ml_59, ml_60, ml_63, ml_98, ml_100, ml_103, ml_104, ml_105, ml_106, ml_107, ml_108, ml_109, ml_110, ml_111, ml_112, ml_113, ml_114, ml_115, ml_120, ml_127, ml_176, ml_180, ml_200, ml_254, ml_255, ml_256, ml_300, ml_728, ml_832, ml_65536, q1, e0]
    · simp (discharger := omega) only [f_X10_inBag, nI_add, mt_mul, nI_clamp, nI_leI, nI_ltI, nI_eq, mt_in_t, mt_b1, mt_b2, mt_b3, mt_b4, mt_l, mt_g, ↓reduceIte, Nat.reduceEqDiff, Nat.reduceLeDiff, ml_0, ml_1, ml_2, ml_3, ml_4, ml_5, ml_6, ml_7, ml_8, ml_9, ml_10, ml_11, ml_12, ml_13, ml_14, ml_16, ml_31, ml_32, ml_40, ml_42, ml_48, ml_50, ml_57, ml_59, ml_60, ml_63, ml_98, ml_100, ml_103, ml_104, ml_105, ml_106, ml_107, ml_108, ml_109, ml_110, ml_111, ml_112, ml_113, ml_114, ml_115, ml_120, ml_127, ml_176, ml_180, ml_200, ml_254, ml_255, ml_256, ml_300, ml_728, ml_832, ml_65536, q2, key]
  · have hM' := mt_M_t (t := 1) hM (by decide)
    have cn := mt_at hM' (i := 0) (by decide)
    have key : f_X10_inBag_L20 1000 (fw_u μ 0 18 0 (nI 1)) x (nI 0) (nI 0) = some (fw_u μ 0 18 0 (nI 1), nI 0) := by
      show f_X10_inBag_L20 (999 + 1) (fw_u μ 0 18 0 (nI 1)) x (nI 0) (nI 0) = _
      by_cases h0 : σ 0 ≤ 0 <;> simp (discharger := omega) only [f_X10_inBag_L20, nI_add, mt_mul, nI_clamp, nI_leI, nI_ltI, nI_eq, mt_in_t, mt_b1, mt_b2, mt_b3, mt_b4, mt_l, mt_g, ↓reduceIte, Nat.reduceEqDiff, Nat.reduceLeDiff, ml_0, ml_1, ml_2, ml_3, ml_4, ml_5, ml_6, ml_7, ml_8, ml_9, ml_10, ml_11, ml_12, ml_13, ml_14, ml_16, ml_31, ml_32, ml_40, ml_42, ml_48, ml_50, ml_57, ml_59, ml_60, ml_63, ml_98, ml_100, ml_103, ml_104, ml_105, ml_106, ml_107, ml_108, ml_109, ml_110, ml_111, ml_112, ml_113, ml_114, ml_115, ml_120, ml_127, ml_176, ml_180, ml_200, ml_254, ml_255, ml_256, ml_300, ml_728, ml_832, ml_65536, cn, h0, mt_uy]
    refine mt_A_no (k := 1) (t := 1) (r := nI 0) (r2 := nI 0) hR ?_ ?_ ⟨rfl, rfl⟩
    · simp (discharger := omega) only [f_X9_inBag, f_X9_requireClient, nI_add, mt_mul, nI_clamp, nI_leI, nI_ltI, nI_eq, mt_in_t, mt_b1, mt_b2, mt_b3, mt_b4, mt_l, mt_g, ↓reduceIte, Nat.reduceEqDiff, Nat.reduceLeDiff, ml_0, ml_1, ml_2, ml_3, ml_4, ml_5, ml_6, ml_7, ml_8, ml_9, ml_10, ml_11, ml_12, ml_13, ml_14, ml_16, ml_31, ml_32, ml_40, ml_42, ml_48, ml_50, ml_57, ml_59, ml_60, ml_63, ml_98, ml_100, ml_103, ml_104, ml_105, ml_106, ml_107, ml_108, ml_109, ml_110, ml_111, ml_112, ml_113, ml_114, ml_115, ml_120, ml_127, ml_176, ml_180, ml_200, ml_254, ml_255, ml_256, ml_300, ml_728, ml_832, ml_65536, q1]
    · simp (discharger := omega) only [f_X10_inBag, nI_add, mt_mul, nI_clamp, nI_leI, nI_ltI, nI_eq, mt_in_t, mt_b1, mt_b2, mt_b3, mt_b4, mt_l, mt_g, ↓reduceIte, Nat.reduceEqDiff, Nat.reduceLeDiff, ml_0, ml_1, ml_2, ml_3, ml_4, ml_5, ml_6, ml_7, ml_8, ml_9, ml_10, ml_11, ml_12, ml_13, ml_14, ml_16, ml_31, ml_32, ml_40, ml_42, ml_48, ml_50, ml_57, ml_59, ml_60, ml_63, ml_98, ml_100, ml_103, ml_104, ml_105, ml_106, ml_107, ml_108, ml_109, ml_110, ml_111, ml_112, ml_113, ml_114, ml_115, ml_120, ml_127, ml_176, ml_180, ml_200, ml_254, ml_255, ml_256, ml_300, ml_728, ml_832, ml_65536, q2, key]
theorem pc_temperature (hR : mt_R B μ) (x : Int32) : mt_A B (fun a b => a = b ∧ fw_f64 (FP.f2d a) = true ∧ Op.cmpValue (FP.dcmp (FP.f2d a) (FP.f2d a)) CmpOp.l = nI 0) mt_e1 (f_X9_temperature μ x) (fun m => f_X10_temperature m x) := by
  obtain ⟨σ, hC, hM, hok⟩ := hR.1
  have hk := hok.1
  have h16 := hk.1
  rcases mt_mac μ μ x with ⟨c, hc, rfl, q1, q2⟩ | ⟨q1, q2⟩
  · have hh := hok.2.2.1 c hc
    have hM' := mt_M_t (t := 0) hM (by decide)
    have ch := hC.2.2.1 c hc
    have rh := mt_at hM' (i := 2 + c) (by omega)
    have e0 := mc_degrees hC hc (by omega)
    have e1 := mr_warm hM' hc (by omega)
    obtain ⟨-, -, w3, -, -, w6⟩ := mf_W (σ (2 + c)) (by omega)
    refine mt_A_ok (r := mf_w (σ (2 + c))) (r2 := mf_w (σ (2 + c))) hR ?_ ?_ ⟨rfl, w3, w6⟩
    · simp (discharger := omega) only [f_X9_temperature, f_X9_requireMachine, nI_add, mt_mul, nI_clamp, nI_leI, nI_ltI, nI_eq, mt_in_t, mt_b1, mt_b2, mt_b3, mt_b4, mt_l, mt_g, ↓reduceIte, Nat.reduceEqDiff, Nat.reduceLeDiff, ml_0, ml_1, ml_2, ml_3, ml_4, ml_5, ml_6, ml_7, ml_8, ml_9, ml_10, ml_11, ml_12, ml_13, ml_14, ml_16, ml_31, ml_32, ml_40, ml_42, ml_48, ml_50, ml_57, ml_59, ml_60, ml_63, ml_98, ml_100, ml_103, ml_104, ml_105, ml_106, ml_107, ml_108, ml_109, ml_110, ml_111, ml_112, ml_113, ml_114, ml_115, ml_120, ml_127, ml_176, ml_180, ml_200, ml_254, ml_255, ml_256, ml_300, ml_728, ml_832, ml_65536, q1, e0]
    · simp (discharger := omega) only [f_X10_temperature, f_X10_temperature_J13, nI_add, mt_mul, nI_clamp, nI_leI, nI_ltI, nI_eq, mt_in_t, mt_b1, mt_b2, mt_b3, mt_b4, mt_l, mt_g, ↓reduceIte, Nat.reduceEqDiff, Nat.reduceLeDiff, ml_0, ml_1, ml_2, ml_3, ml_4, ml_5, ml_6, ml_7, ml_8, ml_9, ml_10, ml_11, ml_12, ml_13, ml_14, ml_16, ml_31, ml_32, ml_40, ml_42, ml_48, ml_50, ml_57, ml_59, ml_60, ml_63, ml_98, ml_100, ml_103, ml_104, ml_105, ml_106, ml_107, ml_108, ml_109, ml_110, ml_111, ml_112, ml_113, ml_114, ml_115, ml_120, ml_127, ml_176, ml_180, ml_200, ml_254, ml_255, ml_256, ml_300, ml_728, ml_832, ml_65536, q2, mt_uy, Nat.le_refl, rh, e1]
  · refine mt_A_no (k := 1) (t := 1) (r := FP.fconst0) (r2 := FP.fconst0) hR ?_ ?_ ⟨rfl, rfl⟩
    · simp (discharger := omega) only [f_X9_temperature, f_X9_requireMachine, nI_add, mt_mul, nI_clamp, nI_leI, nI_ltI, nI_eq, mt_in_t, mt_b1, mt_b2, mt_b3, mt_b4, mt_l, mt_g, ↓reduceIte, Nat.reduceEqDiff, Nat.reduceLeDiff, ml_0, ml_1, ml_2, ml_3, ml_4, ml_5, ml_6, ml_7, ml_8, ml_9, ml_10, ml_11, ml_12, ml_13, ml_14, ml_16, ml_31, ml_32, ml_40, ml_42, ml_48, ml_50, ml_57, ml_59, ml_60, ml_63, ml_98, ml_100, ml_103, ml_104, ml_105, ml_106, ml_107, ml_108, ml_109, ml_110, ml_111, ml_112, ml_113, ml_114, ml_115, ml_120, ml_127, ml_176, ml_180, ml_200, ml_254, ml_255, ml_256, ml_300, ml_728, ml_832, ml_65536, q1]; rfl
    · simp (discharger := omega) only [f_X10_temperature, f_X10_temperature_J13, nI_add, mt_mul, nI_clamp, nI_leI, nI_ltI, nI_eq, mt_in_t, mt_b1, mt_b2, mt_b3, mt_b4, mt_l, mt_g, ↓reduceIte, Nat.reduceEqDiff, Nat.reduceLeDiff, ml_0, ml_1, ml_2, ml_3, ml_4, ml_5, ml_6, ml_7, ml_8, ml_9, ml_10, ml_11, ml_12, ml_13, ml_14, ml_16, ml_31, ml_32, ml_40, ml_42, ml_48, ml_50, ml_57, ml_59, ml_60, ml_63, ml_98, ml_100, ml_103, ml_104, ml_105, ml_106, ml_107, ml_108, ml_109, ml_110, ml_111, ml_112, ml_113, ml_114, ml_115, ml_120, ml_127, ml_176, ml_180, ml_200, ml_254, ml_255, ml_256, ml_300, ml_728, ml_832, ml_65536, q2, mt_uy]
theorem pc_washableStains (hR : mt_R B μ) (x : Int32) : mt_A B (Eq) mt_e1 (f_X9_washableStains μ x) (fun m => f_X10_washableStains m x) := by
  obtain ⟨σ, hC, hM, hok⟩ := hR.1
  have hk := hok.1
  have h16 := hk.1
  rcases mt_mac μ μ x with ⟨c, hc, rfl, q1, q2⟩ | ⟨q1, q2⟩
  · have hh := hok.2.2.1 c hc
    have hM' := mt_M_t (t := 0) hM (by decide)
    have ch := hC.2.2.1 c hc
    have rh := mt_at hM' (i := 2 + c) (by omega)
    have e0 := mc_removedAt (μ := μ) (h := σ (2 + c)) (by omega)
    have e1 := mr_washable (μ := fw_u μ 0 18 0 (nI 0)) (h := σ (2 + c)) (by omega)
    refine mt_A_ok (r := nI (ms_wb (σ (2 + c)))) (r2 := nI (ms_wb (σ (2 + c)))) hR ?_ ?_ rfl
    · simp (discharger := omega) only [f_X9_washableStains, f_X9_requireMachine, nI_add, mt_mul, nI_clamp, nI_leI, nI_ltI, nI_eq, mt_in_t, mt_b1, mt_b2, mt_b3, mt_b4, mt_l, mt_g, ↓reduceIte, Nat.reduceEqDiff, Nat.reduceLeDiff, ml_0, ml_1, ml_2, ml_3, ml_4, ml_5, ml_6, ml_7, ml_8, ml_9, ml_10, ml_11, ml_12, ml_13, ml_14, ml_16, ml_31, ml_32, ml_40, ml_42, ml_48, ml_50, ml_57, ml_59, ml_60, ml_63, ml_98, ml_100, ml_103, ml_104, ml_105, ml_106, ml_107, ml_108, ml_109, ml_110, ml_111, ml_112, ml_113, ml_114, ml_115, ml_120, ml_127, ml_176, ml_180, ml_200, ml_254, ml_255, ml_256, ml_300, ml_728, ml_832, ml_65536, q1, ch, e0]
    · simp (discharger := omega) only [f_X10_washableStains, f_X10_washableStains_J13, nI_add, mt_mul, nI_clamp, nI_leI, nI_ltI, nI_eq, mt_in_t, mt_b1, mt_b2, mt_b3, mt_b4, mt_l, mt_g, ↓reduceIte, Nat.reduceEqDiff, Nat.reduceLeDiff, ml_0, ml_1, ml_2, ml_3, ml_4, ml_5, ml_6, ml_7, ml_8, ml_9, ml_10, ml_11, ml_12, ml_13, ml_14, ml_16, ml_31, ml_32, ml_40, ml_42, ml_48, ml_50, ml_57, ml_59, ml_60, ml_63, ml_98, ml_100, ml_103, ml_104, ml_105, ml_106, ml_107, ml_108, ml_109, ml_110, ml_111, ml_112, ml_113, ml_114, ml_115, ml_120, ml_127, ml_176, ml_180, ml_200, ml_254, ml_255, ml_256, ml_300, ml_728, ml_832, ml_65536, q2, mt_uy, Nat.le_refl, rh, e1]
  · refine mt_A_no (k := 1) (t := 1) (r := nI 0) (r2 := nI 0) hR ?_ ?_ ⟨rfl, rfl⟩
    · simp (discharger := omega) only [f_X9_washableStains, f_X9_requireMachine, nI_add, mt_mul, nI_clamp, nI_leI, nI_ltI, nI_eq, mt_in_t, mt_b1, mt_b2, mt_b3, mt_b4, mt_l, mt_g, ↓reduceIte, Nat.reduceEqDiff, Nat.reduceLeDiff, ml_0, ml_1, ml_2, ml_3, ml_4, ml_5, ml_6, ml_7, ml_8, ml_9, ml_10, ml_11, ml_12, ml_13, ml_14, ml_16, ml_31, ml_32, ml_40, ml_42, ml_48, ml_50, ml_57, ml_59, ml_60, ml_63, ml_98, ml_100, ml_103, ml_104, ml_105, ml_106, ml_107, ml_108, ml_109, ml_110, ml_111, ml_112, ml_113, ml_114, ml_115, ml_120, ml_127, ml_176, ml_180, ml_200, ml_254, ml_255, ml_256, ml_300, ml_728, ml_832, ml_65536, q1]
    · simp (discharger := omega) only [f_X10_washableStains, f_X10_washableStains_J13, nI_add, mt_mul, nI_clamp, nI_leI, nI_ltI, nI_eq, mt_in_t, mt_b1, mt_b2, mt_b3, mt_b4, mt_l, mt_g, ↓reduceIte, Nat.reduceEqDiff, Nat.reduceLeDiff, ml_0, ml_1, ml_2, ml_3, ml_4, ml_5, ml_6, ml_7, ml_8, ml_9, ml_10, ml_11, ml_12, ml_13, ml_14, ml_16, ml_31, ml_32, ml_40, ml_42, ml_48, ml_50, ml_57, ml_59, ml_60, ml_63, ml_98, ml_100, ml_103, ml_104, ml_105, ml_106, ml_107, ml_108, ml_109, ml_110, ml_111, ml_112, ml_113, ml_114, ml_115, ml_120, ml_127, ml_176, ml_180, ml_200, ml_254, ml_255, ml_256, ml_300, ml_728, ml_832, ml_65536, q2, mt_uy]
theorem pc_damageByMasks (hR : mt_R B μ) (x : Int32) : mt_A B (Eq) mt_e1 (f_X9_damageByMasks μ x) (fun m => f_X10_damageByMasks m x) := by
  obtain ⟨σ, hC, hM, hok⟩ := hR.1
  have hk := hok.1
  have h16 := hk.1
  rcases mt_mac μ μ x with ⟨c, hc, rfl, q1, q2⟩ | ⟨q1, q2⟩
  · have hh := hok.2.2.1 c hc
    have hM' := mt_M_t (t := 0) hM (by decide)
    have ch := hC.2.2.1 c hc
    have rh := mt_at hM' (i := 2 + c) (by omega)
    have e0 := mc_damageFromSets hC hk hc (h := σ (2 + c)) (by omega)
    have e1 := mr_harm hM' hk hc (h := σ (2 + c)) (by omega)
    refine mt_A_ok (r := nI (ms_harm σ c (σ (2 + c)))) (r2 := nI (ms_harm σ c (σ (2 + c)))) hR ?_ ?_ rfl
    · simp (discharger := omega) only [f_X9_damageByMasks, f_X9_requireMachine, nI_add, mt_mul, nI_clamp, nI_leI, nI_ltI, nI_eq, mt_in_t, mt_b1, mt_b2, mt_b3, mt_b4, mt_l, mt_g, ↓reduceIte, Nat.reduceEqDiff, Nat.reduceLeDiff, ml_0, ml_1, ml_2, ml_3, ml_4, ml_5, ml_6, ml_7, ml_8, ml_9, ml_10, ml_11, ml_12, ml_13, ml_14, ml_16, ml_31, ml_32, ml_40, ml_42, ml_48, ml_50, ml_57, ml_59, ml_60, ml_63, ml_98, ml_100, ml_103, ml_104, ml_105, ml_106, ml_107, ml_108, ml_109, ml_110, ml_111, ml_112, ml_113, ml_114, ml_115, ml_120, ml_127, ml_176, ml_180, ml_200, ml_254, ml_255, ml_256, ml_300, ml_728, ml_832, ml_65536, q1, ch, e0]
    · simp (discharger := omega) only [f_X10_damageByMasks, f_X10_damage, f_X10_damage_J13, nI_add, mt_mul, nI_clamp, nI_leI, nI_ltI, nI_eq, mt_in_t, mt_b1, mt_b2, mt_b3, mt_b4, mt_l, mt_g, ↓reduceIte, Nat.reduceEqDiff, Nat.reduceLeDiff, ml_0, ml_1, ml_2, ml_3, ml_4, ml_5, ml_6, ml_7, ml_8, ml_9, ml_10, ml_11, ml_12, ml_13, ml_14, ml_16, ml_31, ml_32, ml_40, ml_42, ml_48, ml_50, ml_57, ml_59, ml_60, ml_63, ml_98, ml_100, ml_103, ml_104, ml_105, ml_106, ml_107, ml_108, ml_109, ml_110, ml_111, ml_112, ml_113, ml_114, ml_115, ml_120, ml_127, ml_176, ml_180, ml_200, ml_254, ml_255, ml_256, ml_300, ml_728, ml_832, ml_65536, q2, mt_uy, Nat.le_refl, rh, e1]
  · refine mt_A_no (k := 1) (t := 1) (r := nI 0) (r2 := nI 0) hR ?_ ?_ ⟨rfl, rfl⟩
    · simp (discharger := omega) only [f_X9_damageByMasks, f_X9_requireMachine, nI_add, mt_mul, nI_clamp, nI_leI, nI_ltI, nI_eq, mt_in_t, mt_b1, mt_b2, mt_b3, mt_b4, mt_l, mt_g, ↓reduceIte, Nat.reduceEqDiff, Nat.reduceLeDiff, ml_0, ml_1, ml_2, ml_3, ml_4, ml_5, ml_6, ml_7, ml_8, ml_9, ml_10, ml_11, ml_12, ml_13, ml_14, ml_16, ml_31, ml_32, ml_40, ml_42, ml_48, ml_50, ml_57, ml_59, ml_60, ml_63, ml_98, ml_100, ml_103, ml_104, ml_105, ml_106, ml_107, ml_108, ml_109, ml_110, ml_111, ml_112, ml_113, ml_114, ml_115, ml_120, ml_127, ml_176, ml_180, ml_200, ml_254, ml_255, ml_256, ml_300, ml_728, ml_832, ml_65536, q1]
    · simp (discharger := omega) only [f_X10_damageByMasks, f_X10_damage, f_X10_damage_J13, nI_add, mt_mul, nI_clamp, nI_leI, nI_ltI, nI_eq, mt_in_t, mt_b1, mt_b2, mt_b3, mt_b4, mt_l, mt_g, ↓reduceIte, Nat.reduceEqDiff, Nat.reduceLeDiff, ml_0, ml_1, ml_2, ml_3, ml_4, ml_5, ml_6, ml_7, ml_8, ml_9, ml_10, ml_11, ml_12, ml_13, ml_14, ml_16, ml_31, ml_32, ml_40, ml_42, ml_48, ml_50, ml_57, ml_59, ml_60, ml_63, ml_98, ml_100, ml_103, ml_104, ml_105, ml_106, ml_107, ml_108, ml_109, ml_110, ml_111, ml_112, ml_113, ml_114, ml_115, ml_120, ml_127, ml_176, ml_180, ml_200, ml_254, ml_255, ml_256, ml_300, ml_728, ml_832, ml_65536, q2, mt_uy]
theorem pc_inMachine (hR : mt_R B μ) (x : Int32) : mt_A B (Eq) mt_e1 (f_X9_inMachine μ x) (fun m => f_X10_inMachine m x) := by
  obtain ⟨σ, hC, hM, hok⟩ := hR.1
  have hk := hok.1
  have h16 := hk.1
  rcases mt_mac μ μ x with ⟨c, hc, rfl, q1, q2⟩ | ⟨q1, q2⟩
  · have hh := hok.2.2.1 c hc
    have hM' := mt_M_t (t := 0) hM (by decide)
    have ch := hC.2.2.1 c hc
    have rh := mt_at hM' (i := 2 + c) (by omega)
    have e0 := mc_garmentsAt hC hk (p := c + 1) (by omega)
    have cn := mt_at hM' (i := 0) (by decide)
    have key : f_X10_inMachine_L20 1000 (fw_u μ 0 18 0 (nI 0)) (nI c) (nI 0) (nI 0) = some (fw_u μ 0 18 0 (nI 0), nI (mt_or (fun g => if σ (4 + 6 * g + 4) = c + 1 then 2 ^ g else 0) (σ 0))) := by
      refine mt_det (fun n (a : Int32) i => f_X10_inMachine_L20 n (fw_u μ 0 18 0 (nI 0)) (nI c) a i) (fun i => nI (mt_or (fun g => if σ (4 + 6 * g + 4) = c + 1 then 2 ^ g else 0) i)) (N := σ 0) ?_ ?_ (n := 1000) (by omega)
      · intro n
        simp (discharger := omega) only [f_X10_inMachine_L20, nI_add, mt_mul, nI_clamp, nI_leI, nI_ltI, nI_eq, mt_in_t, mt_b1, mt_b2, mt_b3, mt_b4, mt_l, mt_g, ↓reduceIte, Nat.reduceEqDiff, Nat.reduceLeDiff, ml_0, ml_1, ml_2, ml_3, ml_4, ml_5, ml_6, ml_7, ml_8, ml_9, ml_10, ml_11, ml_12, ml_13, ml_14, ml_16, ml_31, ml_32, ml_40, ml_42, ml_48, ml_50, ml_57, ml_59, ml_60, ml_63, ml_98, ml_100, ml_103, ml_104, ml_105, ml_106, ml_107, ml_108, ml_109, ml_110, ml_111, ml_112, ml_113, ml_114, ml_115, ml_120, ml_127, ml_176, ml_180, ml_200, ml_254, ml_255, ml_256, ml_300, ml_728, ml_832, ml_65536, cn, Nat.le_refl]
      · intro n i hi
        have r2 := mr_of hM' (g := i) (w := 2) (by omega) (by decide)
        have r3 := mr_of hM' (g := i) (w := 3) (by omega) (by decide)
        have e := mr_isInside hM' hk hi hc
        obtain ⟨b0, b1, b2, b3, b4⟩ := hk.2 i hi
        have hi' : ¬ σ 0 ≤ i := by omega
        by_cases p : σ (4 + 6 * i + 4) = c + 1
        · simp (discharger := omega) only [f_X10_inMachine_L20, nI_add, mt_mul, nI_clamp, nI_leI, nI_ltI, nI_eq, mt_in_t, mt_b1, mt_b2, mt_b3, mt_b4, mt_l, mt_g, ↓reduceIte, Nat.reduceEqDiff, Nat.reduceLeDiff, ml_0, ml_1, ml_2, ml_3, ml_4, ml_5, ml_6, ml_7, ml_8, ml_9, ml_10, ml_11, ml_12, ml_13, ml_14, ml_16, ml_31, ml_32, ml_40, ml_42, ml_48, ml_50, ml_57, ml_59, ml_60, ml_63, ml_98, ml_100, ml_103, ml_104, ml_105, ml_106, ml_107, ml_108, ml_109, ml_110, ml_111, ml_112, ml_113, ml_114, ml_115, ml_120, ml_127, ml_176, ml_180, ml_200, ml_254, ml_255, ml_256, ml_300, ml_728, ml_832, ml_65536, cn, hi', mt_uy, r2, r3, e, p, mt_or, mt_shl, fa_or]
        · simp (discharger := omega) only [f_X10_inMachine_L20, nI_add, mt_mul, nI_clamp, nI_leI, nI_ltI, nI_eq, mt_in_t, mt_b1, mt_b2, mt_b3, mt_b4, mt_l, mt_g, ↓reduceIte, Nat.reduceEqDiff, Nat.reduceLeDiff, ml_0, ml_1, ml_2, ml_3, ml_4, ml_5, ml_6, ml_7, ml_8, ml_9, ml_10, ml_11, ml_12, ml_13, ml_14, ml_16, ml_31, ml_32, ml_40, ml_42, ml_48, ml_50, ml_57, ml_59, ml_60, ml_63, ml_98, ml_100, ml_103, ml_104, ml_105, ml_106, ml_107, ml_108, ml_109, ml_110, ml_111, ml_112, ml_113, ml_114, ml_115, ml_120, ml_127, ml_176, ml_180, ml_200, ml_254, ml_255, ml_256, ml_300, ml_728, ml_832, ml_65536, cn, hi', mt_uy, r2, r3, e, p, mt_or, mt_shl, fa_or]
    refine mt_A_ok (r := nI (mt_or (fun g => if σ (4 + 6 * g + 4) = c + 1 then 2 ^ g else 0) (σ 0))) (r2 := nI (mt_or (fun g => if σ (4 + 6 * g + 4) = c + 1 then 2 ^ g else 0) (σ 0))) hR ?_ ?_ rfl
    · simp (discharger := omega) only [f_X9_inMachine, f_X9_requireMachine, nI_add, mt_mul, nI_clamp, nI_leI, nI_ltI, nI_eq, mt_in_t, mt_b1, mt_b2, mt_b3, mt_b4, mt_l, mt_g, ↓reduceIte, Nat.reduceEqDiff, Nat.reduceLeDiff, ml_0, ml_1, ml_2, ml_3, ml_4, ml_5, ml_6, ml_7, ml_8, ml_9, ml_10, ml_11, ml_12, ml_13, ml_14, ml_16, ml_31, ml_32, ml_40, ml_42, ml_48, ml_50, ml_57, ml_59, ml_60, ml_63, ml_98, ml_100, ml_103, ml_104, ml_105, ml_106, ml_107, ml_108, ml_109, ml_110, ml_111, ml_112, ml_113, ml_114, ml_115, ml_120, ml_127, ml_176, ml_180, ml_200, ml_254, ml_255, ml_256, ml_300, ml_728, ml_832, ml_65536, q1, Nat.add_comm 1, e0]
    · simp (discharger := omega) only [f_X10_inMachine, nI_add, mt_mul, nI_clamp, nI_leI, nI_ltI, nI_eq, mt_in_t, mt_b1, mt_b2, mt_b3, mt_b4, mt_l, mt_g, ↓reduceIte, Nat.reduceEqDiff, Nat.reduceLeDiff, ml_0, ml_1, ml_2, ml_3, ml_4, ml_5, ml_6, ml_7, ml_8, ml_9, ml_10, ml_11, ml_12, ml_13, ml_14, ml_16, ml_31, ml_32, ml_40, ml_42, ml_48, ml_50, ml_57, ml_59, ml_60, ml_63, ml_98, ml_100, ml_103, ml_104, ml_105, ml_106, ml_107, ml_108, ml_109, ml_110, ml_111, ml_112, ml_113, ml_114, ml_115, ml_120, ml_127, ml_176, ml_180, ml_200, ml_254, ml_255, ml_256, ml_300, ml_728, ml_832, ml_65536, q2, mt_uy, Nat.le_refl, rh, key]
  · have hM' := mt_M_t (t := 1) hM (by decide)
    have cn := mt_at hM' (i := 0) (by decide)
    have key : f_X10_inMachine_L20 1000 (fw_u μ 0 18 0 (nI 1)) x (nI 0) (nI 0) = some (fw_u μ 0 18 0 (nI 1), nI 0) := by
      show f_X10_inMachine_L20 (999 + 1) (fw_u μ 0 18 0 (nI 1)) x (nI 0) (nI 0) = _
      by_cases h0 : σ 0 ≤ 0 <;> simp (discharger := omega) only [f_X10_inMachine_L20, nI_add, mt_mul, nI_clamp, nI_leI, nI_ltI, nI_eq, mt_in_t, mt_b1, mt_b2, mt_b3, mt_b4, mt_l, mt_g, ↓reduceIte, Nat.reduceEqDiff, Nat.reduceLeDiff, ml_0, ml_1, ml_2, ml_3, ml_4, ml_5, ml_6, ml_7, ml_8, ml_9, ml_10, ml_11, ml_12, ml_13, ml_14, ml_16, ml_31, ml_32, ml_40, ml_42, ml_48, ml_50, ml_57, ml_59, ml_60, ml_63, ml_98, ml_100, ml_103, ml_104, ml_105, ml_106, ml_107, ml_108, ml_109, ml_110, ml_111, ml_112, ml_113, ml_114, ml_115, ml_120, ml_127, ml_176, ml_180, ml_200, ml_254, ml_255, ml_256, ml_300, ml_728, ml_832, ml_65536, cn, h0, mt_uy]
    refine mt_A_no (k := 1) (t := 1) (r := nI 0) (r2 := nI 0) hR ?_ ?_ ⟨rfl, rfl⟩
    · simp (discharger := omega) only [f_X9_inMachine, f_X9_requireMachine, nI_add, mt_mul, nI_clamp, nI_leI, nI_ltI, nI_eq, mt_in_t, mt_b1, mt_b2, mt_b3, mt_b4, mt_l, mt_g, ↓reduceIte, Nat.reduceEqDiff, Nat.reduceLeDiff, ml_0, ml_1, ml_2, ml_3, ml_4, ml_5, ml_6, ml_7, ml_8, ml_9, ml_10, ml_11, ml_12, ml_13, ml_14, ml_16, ml_31, ml_32, ml_40, ml_42, ml_48, ml_50, ml_57, ml_59, ml_60, ml_63, ml_98, ml_100, ml_103, ml_104, ml_105, ml_106, ml_107, ml_108, ml_109, ml_110, ml_111, ml_112, ml_113, ml_114, ml_115, ml_120, ml_127, ml_176, ml_180, ml_200, ml_254, ml_255, ml_256, ml_300, ml_728, ml_832, ml_65536, q1]
    · simp (discharger := omega) only [f_X10_inMachine, nI_add, mt_mul, nI_clamp, nI_leI, nI_ltI, nI_eq, mt_in_t, mt_b1, mt_b2, mt_b3, mt_b4, mt_l, mt_g, ↓reduceIte, Nat.reduceEqDiff, Nat.reduceLeDiff, ml_0, ml_1, ml_2, ml_3, ml_4, ml_5, ml_6, ml_7, ml_8, ml_9, ml_10, ml_11, ml_12, ml_13, ml_14, ml_16, ml_31, ml_32, ml_40, ml_42, ml_48, ml_50, ml_57, ml_59, ml_60, ml_63, ml_98, ml_100, ml_103, ml_104, ml_105, ml_106, ml_107, ml_108, ml_109, ml_110, ml_111, ml_112, ml_113, ml_114, ml_115, ml_120, ml_127, ml_176, ml_180, ml_200, ml_254, ml_255, ml_256, ml_300, ml_728, ml_832, ml_65536, q2, key]
theorem pc_coloursIn (hR : mt_R B μ) (x : Int32) : mt_A B (Eq) mt_e1 (f_X9_coloursIn μ x) (fun m => f_X10_coloursIn m x) := by
  obtain ⟨σ, hC, hM, hok⟩ := hR.1
  have hk := hok.1
  have h16 := hk.1
  rcases mt_mac μ μ x with ⟨c, hc, rfl, q1, q2⟩ | ⟨q1, q2⟩
  · have hh := hok.2.2.1 c hc
    have hM' := mt_M_t (t := 0) hM (by decide)
    have ch := hC.2.2.1 c hc
    have rh := mt_at hM' (i := 2 + c) (by omega)
    have e0 := mc_coloursOfLoad hC hk hc
    have cn := mt_at hM' (i := 0) (by decide)
    have key : f_X10_coloursIn_L29 1000 (fw_u μ 0 18 0 (nI 0)) (nI c) (nI 0) (nI 0) = some (fw_u μ 0 18 0 (nI 0), nI (mt_or (fun g => if σ (4 + 6 * g + 4) = c + 1 then 2 ^ σ (4 + 6 * g + 2) else 0) (σ 0))) := by
      refine mt_det (fun n (a : Int32) i => f_X10_coloursIn_L29 n (fw_u μ 0 18 0 (nI 0)) (nI c) a i) (fun i => nI (mt_or (fun g => if σ (4 + 6 * g + 4) = c + 1 then 2 ^ σ (4 + 6 * g + 2) else 0) i)) (N := σ 0) ?_ ?_ (n := 1000) (by omega)
      · intro n
        simp (discharger := omega) only [f_X10_coloursIn_L29, nI_add, mt_mul, nI_clamp, nI_leI, nI_ltI, nI_eq, mt_in_t, mt_b1, mt_b2, mt_b3, mt_b4, mt_l, mt_g, ↓reduceIte, Nat.reduceEqDiff, Nat.reduceLeDiff, ml_0, ml_1, ml_2, ml_3, ml_4, ml_5, ml_6, ml_7, ml_8, ml_9, ml_10, ml_11, ml_12, ml_13, ml_14, ml_16, ml_31, ml_32, ml_40, ml_42, ml_48, ml_50, ml_57, ml_59, ml_60, ml_63, ml_98, ml_100, ml_103, ml_104, ml_105, ml_106, ml_107, ml_108, ml_109, ml_110, ml_111, ml_112, ml_113, ml_114, ml_115, ml_120, ml_127, ml_176, ml_180, ml_200, ml_254, ml_255, ml_256, ml_300, ml_728, ml_832, ml_65536, cn, Nat.le_refl]
      · intro n i hi
        have r2 := mr_of hM' (g := i) (w := 2) (by omega) (by decide)
        have r3 := mr_of hM' (g := i) (w := 3) (by omega) (by decide)
        have e := mr_isInside hM' hk hi hc
        obtain ⟨b0, b1, b2, b3, b4⟩ := hk.2 i hi
        have hi' : ¬ σ 0 ≤ i := by omega
        by_cases p : σ (4 + 6 * i + 4) = c + 1
        · simp (discharger := omega) only [f_X10_coloursIn_L29, nI_add, mt_mul, nI_clamp, nI_leI, nI_ltI, nI_eq, mt_in_t, mt_b1, mt_b2, mt_b3, mt_b4, mt_l, mt_g, ↓reduceIte, Nat.reduceEqDiff, Nat.reduceLeDiff, ml_0, ml_1, ml_2, ml_3, ml_4, ml_5, ml_6, ml_7, ml_8, ml_9, ml_10, ml_11, ml_12, ml_13, ml_14, ml_16, ml_31, ml_32, ml_40, ml_42, ml_48, ml_50, ml_57, ml_59, ml_60, ml_63, ml_98, ml_100, ml_103, ml_104, ml_105, ml_106, ml_107, ml_108, ml_109, ml_110, ml_111, ml_112, ml_113, ml_114, ml_115, ml_120, ml_127, ml_176, ml_180, ml_200, ml_254, ml_255, ml_256, ml_300, ml_728, ml_832, ml_65536, cn, hi', mt_uy, r2, r3, e, p, mt_or, mt_shl, fa_or]
        · simp (discharger := omega) only [f_X10_coloursIn_L29, nI_add, mt_mul, nI_clamp, nI_leI, nI_ltI, nI_eq, mt_in_t, mt_b1, mt_b2, mt_b3, mt_b4, mt_l, mt_g, ↓reduceIte, Nat.reduceEqDiff, Nat.reduceLeDiff, ml_0, ml_1, ml_2, ml_3, ml_4, ml_5, ml_6, ml_7, ml_8, ml_9, ml_10, ml_11, ml_12, ml_13, ml_14, ml_16, ml_31, ml_32, ml_40, ml_42, ml_48, ml_50, ml_57, ml_59, ml_60, ml_63, ml_98, ml_100, ml_103, ml_104, ml_105, ml_106, ml_107, ml_108, ml_109, ml_110, ml_111, ml_112, ml_113, ml_114, ml_115, ml_120, ml_127, ml_176, ml_180, ml_200, ml_254, ml_255, ml_256, ml_300, ml_728, ml_832, ml_65536, cn, hi', mt_uy, r2, r3, e, p, mt_or, mt_shl, fa_or]
    refine mt_A_ok (r := nI (mt_or (fun g => if σ (4 + 6 * g + 4) = c + 1 then 2 ^ σ (4 + 6 * g + 2) else 0) (σ 0))) (r2 := nI (mt_or (fun g => if σ (4 + 6 * g + 4) = c + 1 then 2 ^ σ (4 + 6 * g + 2) else 0) (σ 0))) hR ?_ ?_ rfl
    · simp (discharger := omega) only [f_X9_coloursIn, f_X9_requireMachine, nI_add, mt_mul, nI_clamp, nI_leI, nI_ltI, nI_eq, mt_in_t, mt_b1, mt_b2, mt_b3, mt_b4, mt_l, mt_g, ↓reduceIte, Nat.reduceEqDiff, Nat.reduceLeDiff, ml_0, ml_1, ml_2, ml_3, ml_4, ml_5, ml_6, ml_7, ml_8, ml_9, ml_10, ml_11, ml_12, ml_13, ml_14, ml_16, ml_31, ml_32, ml_40, ml_42, ml_48, ml_50, ml_57, ml_59, ml_60, ml_63, ml_98, ml_100, ml_103, ml_104, ml_105, ml_106, ml_107, ml_108, ml_109, ml_110, ml_111, ml_112, ml_113, ml_114, ml_115, ml_120, ml_127, ml_176, ml_180, ml_200, ml_254, ml_255, ml_256, ml_300, ml_728, ml_832, ml_65536, q1, e0]
    · simp (discharger := omega) only [f_X10_coloursIn, f_X10_coloursIn_J13, nI_add, mt_mul, nI_clamp, nI_leI, nI_ltI, nI_eq, mt_in_t, mt_b1, mt_b2, mt_b3, mt_b4, mt_l, mt_g, ↓reduceIte, Nat.reduceEqDiff, Nat.reduceLeDiff, ml_0, ml_1, ml_2, ml_3, ml_4, ml_5, ml_6, ml_7, ml_8, ml_9, ml_10, ml_11, ml_12, ml_13, ml_14, ml_16, ml_31, ml_32, ml_40, ml_42, ml_48, ml_50, ml_57, ml_59, ml_60, ml_63, ml_98, ml_100, ml_103, ml_104, ml_105, ml_106, ml_107, ml_108, ml_109, ml_110, ml_111, ml_112, ml_113, ml_114, ml_115, ml_120, ml_127, ml_176, ml_180, ml_200, ml_254, ml_255, ml_256, ml_300, ml_728, ml_832, ml_65536, q2, mt_uy, Nat.le_refl, rh, key]
  · refine mt_A_no (k := 1) (t := 1) (r := nI 0) (r2 := nI 0) hR ?_ ?_ ⟨rfl, rfl⟩
    · simp (discharger := omega) only [f_X9_coloursIn, f_X9_requireMachine, nI_add, mt_mul, nI_clamp, nI_leI, nI_ltI, nI_eq, mt_in_t, mt_b1, mt_b2, mt_b3, mt_b4, mt_l, mt_g, ↓reduceIte, Nat.reduceEqDiff, Nat.reduceLeDiff, ml_0, ml_1, ml_2, ml_3, ml_4, ml_5, ml_6, ml_7, ml_8, ml_9, ml_10, ml_11, ml_12, ml_13, ml_14, ml_16, ml_31, ml_32, ml_40, ml_42, ml_48, ml_50, ml_57, ml_59, ml_60, ml_63, ml_98, ml_100, ml_103, ml_104, ml_105, ml_106, ml_107, ml_108, ml_109, ml_110, ml_111, ml_112, ml_113, ml_114, ml_115, ml_120, ml_127, ml_176, ml_180, ml_200, ml_254, ml_255, ml_256, ml_300, ml_728, ml_832, ml_65536, q1]
    · simp (discharger := omega) only [f_X10_coloursIn, f_X10_coloursIn_J13, nI_add, mt_mul, nI_clamp, nI_leI, nI_ltI, nI_eq, mt_in_t, mt_b1, mt_b2, mt_b3, mt_b4, mt_l, mt_g, ↓reduceIte, Nat.reduceEqDiff, Nat.reduceLeDiff, ml_0, ml_1, ml_2, ml_3, ml_4, ml_5, ml_6, ml_7, ml_8, ml_9, ml_10, ml_11, ml_12, ml_13, ml_14, ml_16, ml_31, ml_32, ml_40, ml_42, ml_48, ml_50, ml_57, ml_59, ml_60, ml_63, ml_98, ml_100, ml_103, ml_104, ml_105, ml_106, ml_107, ml_108, ml_109, ml_110, ml_111, ml_112, ml_113, ml_114, ml_115, ml_120, ml_127, ml_176, ml_180, ml_200, ml_254, ml_255, ml_256, ml_300, ml_728, ml_832, ml_65536, q2, mt_uy]
theorem pc_commonStains (hR : mt_R B μ) (x : Int32) : mt_A B (Eq) mt_e1 (f_X9_commonStains μ x) (fun m => f_X10_commonStains m x) := by
  obtain ⟨σ, hC, hM, hok⟩ := hR.1
  have hk := hok.1
  have h16 := hk.1
  rcases mt_mac μ μ x with ⟨c, hc, rfl, q1, q2⟩ | ⟨q1, q2⟩
  · have hh := hok.2.2.1 c hc
    have hM' := mt_M_t (t := 0) hM (by decide)
    have ch := hC.2.2.1 c hc
    have rh := mt_at hM' (i := 2 + c) (by omega)
    have e0 := mc_stainsOfAllIn hC hk hc
    have cn := mt_at hM' (i := 0) (by decide)
    have key : f_X10_commonStains_L31 1000 (fw_u μ 0 18 0 (nI 0)) (nI c) (nI 255) (nI 0) = some (fw_u μ 0 18 0 (nI 0), nI (mt_an (fun g => if σ (4 + 6 * g + 4) = c + 1 then σ (4 + 6 * g + 3) else 255) (σ 0))) := by
      refine mt_det (fun n (a : Int32) i => f_X10_commonStains_L31 n (fw_u μ 0 18 0 (nI 0)) (nI c) a i) (fun i => nI (mt_an (fun g => if σ (4 + 6 * g + 4) = c + 1 then σ (4 + 6 * g + 3) else 255) i)) (N := σ 0) ?_ ?_ (n := 1000) (by omega)
      · intro n
        simp (discharger := omega) only [f_X10_commonStains_L31, nI_add, mt_mul, nI_clamp, nI_leI, nI_ltI, nI_eq, mt_in_t, mt_b1, mt_b2, mt_b3, mt_b4, mt_l, mt_g, ↓reduceIte, Nat.reduceEqDiff, Nat.reduceLeDiff, ml_0, ml_1, ml_2, ml_3, ml_4, ml_5, ml_6, ml_7, ml_8, ml_9, ml_10, ml_11, ml_12, ml_13, ml_14, ml_16, ml_31, ml_32, ml_40, ml_42, ml_48, ml_50, ml_57, ml_59, ml_60, ml_63, ml_98, ml_100, ml_103, ml_104, ml_105, ml_106, ml_107, ml_108, ml_109, ml_110, ml_111, ml_112, ml_113, ml_114, ml_115, ml_120, ml_127, ml_176, ml_180, ml_200, ml_254, ml_255, ml_256, ml_300, ml_728, ml_832, ml_65536, cn, Nat.le_refl]
      · intro n i hi
        have r2 := mr_of hM' (g := i) (w := 2) (by omega) (by decide)
        have r3 := mr_of hM' (g := i) (w := 3) (by omega) (by decide)
        have e := mr_isInside hM' hk hi hc
        obtain ⟨b0, b1, b2, b3, b4⟩ := hk.2 i hi
        have hi' : ¬ σ 0 ≤ i := by omega
        by_cases p : σ (4 + 6 * i + 4) = c + 1
        · simp (discharger := omega) only [f_X10_commonStains_L31, nI_add, mt_mul, nI_clamp, nI_leI, nI_ltI, nI_eq, mt_in_t, mt_b1, mt_b2, mt_b3, mt_b4, mt_l, mt_g, ↓reduceIte, Nat.reduceEqDiff, Nat.reduceLeDiff, ml_0, ml_1, ml_2, ml_3, ml_4, ml_5, ml_6, ml_7, ml_8, ml_9, ml_10, ml_11, ml_12, ml_13, ml_14, ml_16, ml_31, ml_32, ml_40, ml_42, ml_48, ml_50, ml_57, ml_59, ml_60, ml_63, ml_98, ml_100, ml_103, ml_104, ml_105, ml_106, ml_107, ml_108, ml_109, ml_110, ml_111, ml_112, ml_113, ml_114, ml_115, ml_120, ml_127, ml_176, ml_180, ml_200, ml_254, ml_255, ml_256, ml_300, ml_728, ml_832, ml_65536, cn, hi', mt_uy, r2, r3, e, p, mt_an, fa_and]
        · simp (discharger := omega) only [f_X10_commonStains_L31, nI_add, mt_mul, nI_clamp, nI_leI, nI_ltI, nI_eq, mt_in_t, mt_b1, mt_b2, mt_b3, mt_b4, mt_l, mt_g, ↓reduceIte, Nat.reduceEqDiff, Nat.reduceLeDiff, ml_0, ml_1, ml_2, ml_3, ml_4, ml_5, ml_6, ml_7, ml_8, ml_9, ml_10, ml_11, ml_12, ml_13, ml_14, ml_16, ml_31, ml_32, ml_40, ml_42, ml_48, ml_50, ml_57, ml_59, ml_60, ml_63, ml_98, ml_100, ml_103, ml_104, ml_105, ml_106, ml_107, ml_108, ml_109, ml_110, ml_111, ml_112, ml_113, ml_114, ml_115, ml_120, ml_127, ml_176, ml_180, ml_200, ml_254, ml_255, ml_256, ml_300, ml_728, ml_832, ml_65536, cn, hi', mt_uy, r2, r3, e, p, mt_an, fa_and]
    refine mt_A_ok (r := nI (mt_an (fun g => if σ (4 + 6 * g + 4) = c + 1 then σ (4 + 6 * g + 3) else 255) (σ 0))) (r2 := nI (mt_an (fun g => if σ (4 + 6 * g + 4) = c + 1 then σ (4 + 6 * g + 3) else 255) (σ 0))) hR ?_ ?_ rfl
    · simp (discharger := omega) only [f_X9_commonStains, f_X9_requireMachine, nI_add, mt_mul, nI_clamp, nI_leI, nI_ltI, nI_eq, mt_in_t, mt_b1, mt_b2, mt_b3, mt_b4, mt_l, mt_g, ↓reduceIte, Nat.reduceEqDiff, Nat.reduceLeDiff, ml_0, ml_1, ml_2, ml_3, ml_4, ml_5, ml_6, ml_7, ml_8, ml_9, ml_10, ml_11, ml_12, ml_13, ml_14, ml_16, ml_31, ml_32, ml_40, ml_42, ml_48, ml_50, ml_57, ml_59, ml_60, ml_63, ml_98, ml_100, ml_103, ml_104, ml_105, ml_106, ml_107, ml_108, ml_109, ml_110, ml_111, ml_112, ml_113, ml_114, ml_115, ml_120, ml_127, ml_176, ml_180, ml_200, ml_254, ml_255, ml_256, ml_300, ml_728, ml_832, ml_65536, q1, e0]
    · simp (discharger := omega) only [f_X10_commonStains, f_X10_commonStains_J13, nI_add, mt_mul, nI_clamp, nI_leI, nI_ltI, nI_eq, mt_in_t, mt_b1, mt_b2, mt_b3, mt_b4, mt_l, mt_g, ↓reduceIte, Nat.reduceEqDiff, Nat.reduceLeDiff, ml_0, ml_1, ml_2, ml_3, ml_4, ml_5, ml_6, ml_7, ml_8, ml_9, ml_10, ml_11, ml_12, ml_13, ml_14, ml_16, ml_31, ml_32, ml_40, ml_42, ml_48, ml_50, ml_57, ml_59, ml_60, ml_63, ml_98, ml_100, ml_103, ml_104, ml_105, ml_106, ml_107, ml_108, ml_109, ml_110, ml_111, ml_112, ml_113, ml_114, ml_115, ml_120, ml_127, ml_176, ml_180, ml_200, ml_254, ml_255, ml_256, ml_300, ml_728, ml_832, ml_65536, q2, mt_uy, Nat.le_refl, rh, key]
  · refine mt_A_no (k := 1) (t := 1) (r := nI 0) (r2 := nI 0) hR ?_ ?_ ⟨rfl, rfl⟩
    · simp (discharger := omega) only [f_X9_commonStains, f_X9_requireMachine, nI_add, mt_mul, nI_clamp, nI_leI, nI_ltI, nI_eq, mt_in_t, mt_b1, mt_b2, mt_b3, mt_b4, mt_l, mt_g, ↓reduceIte, Nat.reduceEqDiff, Nat.reduceLeDiff, ml_0, ml_1, ml_2, ml_3, ml_4, ml_5, ml_6, ml_7, ml_8, ml_9, ml_10, ml_11, ml_12, ml_13, ml_14, ml_16, ml_31, ml_32, ml_40, ml_42, ml_48, ml_50, ml_57, ml_59, ml_60, ml_63, ml_98, ml_100, ml_103, ml_104, ml_105, ml_106, ml_107, ml_108, ml_109, ml_110, ml_111, ml_112, ml_113, ml_114, ml_115, ml_120, ml_127, ml_176, ml_180, ml_200, ml_254, ml_255, ml_256, ml_300, ml_728, ml_832, ml_65536, q1]
    · simp (discharger := omega) only [f_X10_commonStains, f_X10_commonStains_J13, nI_add, mt_mul, nI_clamp, nI_leI, nI_ltI, nI_eq, mt_in_t, mt_b1, mt_b2, mt_b3, mt_b4, mt_l, mt_g, ↓reduceIte, Nat.reduceEqDiff, Nat.reduceLeDiff, ml_0, ml_1, ml_2, ml_3, ml_4, ml_5, ml_6, ml_7, ml_8, ml_9, ml_10, ml_11, ml_12, ml_13, ml_14, ml_16, ml_31, ml_32, ml_40, ml_42, ml_48, ml_50, ml_57, ml_59, ml_60, ml_63, ml_98, ml_100, ml_103, ml_104, ml_105, ml_106, ml_107, ml_108, ml_109, ml_110, ml_111, ml_112, ml_113, ml_114, ml_115, ml_120, ml_127, ml_176, ml_180, ml_200, ml_254, ml_255, ml_256, ml_300, ml_728, ml_832, ml_65536, q2, mt_uy]
end PR
