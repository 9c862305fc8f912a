/-! the mathematics, 21: the law, call by call -/
theorem mt_cmp {x y : Int64} : (lg_cmp x y = nI 0) ↔ x = y := by
  rw [nI_0]
  exact lg_cmp_eq x y
theorem mt_chx (x : Int32) : ∃ c, c < 65536 ∧ (x.toUInt32 % 65536).toInt32 = nI c := by
  refine ⟨(x.toUInt32 % 65536).toNat, ?_, mf_it _⟩
  rw [UInt32.toNat_mod]
  exact Nat.mod_lt _ (by decide)
section LW
variable {K : fw_M → Int64 → UInt64 → Int32 → Option Unit} {xs : Nat → Int32} {L i B : Nat} {μ : fw_M} {o : Int64} {d : UInt64}
theorem lw_248 (hR : mt_R B μ) (hL : L ≤ 2560) (hi : i + 5 ≤ L) (hB : B < 100000) (hK : ∀ μ' o' d', mt_R (B + 12) μ' → K μ' o' d' (nI (i + 5)) = some ()) : f_law_C248 K xs L μ o d (nI i) = some () := by
  have h0 := pc_bring hR (s := 0) (by decide) (xs (i + 1)) (xs (i + 3)) (xs (i + 4))
  have h1 := pc_bring hR (s := 1) (by decide) (xs (i + 1)) (xs (i + 3)) (xs (i + 4))
  by_cases q : xs (i + 2) = nI 0
  · obtain ⟨μ1, r, k, μ2, r2, t, e1, e2, e3, R2, hcc⟩ := h0
    have e2' : f_X10_bring μ1 (xs (i + 1)) (nI 0) (xs (i + 3)) (xs (i + 4)) = some (μ2, r2) := e2
    have hk := fun o' d' => hK μ2 o' d' (mt_R_m R2 (by omega))
    rcases hcc with ⟨rfl, rfl, rfl⟩ | hcc
    · simp (discharger := omega) only [f_law_C248, f_L_bring, f_X10_thrown, nI_add, mt_mul, nI_clamp, nI_leI, nI_ltI, nI_eq, mt_in_t, mt_b1, mt_b2, mt_b3, mt_b4, mt_l, mt_g, ↓reduceIte, Nat.reduceEqDiff, Nat.reduceLeDiff, ml_0, ml_1, ml_2, ml_3, ml_4, ml_5, ml_6, ml_7, ml_8, ml_9, ml_10, ml_11, ml_12, ml_13, ml_14, ml_16, ml_31, ml_32, ml_40, ml_42, ml_48, ml_50, ml_57, ml_59, ml_60, ml_63, ml_98, ml_100, ml_103, ml_104, ml_105, ml_106, ml_107, ml_108, ml_109, ml_110, ml_111, ml_112, ml_113, ml_114, ml_115, ml_120, ml_127, ml_176, ml_180, ml_200, ml_254, ml_255, ml_256, ml_300, ml_728, ml_832, ml_65536, q, e1, e2', e3, mt_cmp, hk]
    · rcases hcc with ⟨rfl, rfl⟩ | ⟨rfl, rfl⟩ | ⟨rfl, rfl⟩ <;> simp (discharger := omega) only [f_law_C248, f_L_bring, f_X10_thrown, nI_add, mt_mul, nI_clamp, nI_leI, nI_ltI, nI_eq, mt_in_t, mt_b1, mt_b2, mt_b3, mt_b4, mt_l, mt_g, ↓reduceIte, Nat.reduceEqDiff, Nat.reduceLeDiff, ml_0, ml_1, ml_2, ml_3, ml_4, ml_5, ml_6, ml_7, ml_8, ml_9, ml_10, ml_11, ml_12, ml_13, ml_14, ml_16, ml_31, ml_32, ml_40, ml_42, ml_48, ml_50, ml_57, ml_59, ml_60, ml_63, ml_98, ml_100, ml_103, ml_104, ml_105, ml_106, ml_107, ml_108, ml_109, ml_110, ml_111, ml_112, ml_113, ml_114, ml_115, ml_120, ml_127, ml_176, ml_180, ml_200, ml_254, ml_255, ml_256, ml_300, ml_728, ml_832, ml_65536, q, e1, e2', e3, mt_cmp, hk]
  · obtain ⟨μ1, r, k, μ2, r2, t, e1, e2, e3, R2, hcc⟩ := h1
    have e2' : f_X10_bring μ1 (xs (i + 1)) (nI 1) (xs (i + 3)) (xs (i + 4)) = some (μ2, r2) := e2
    have hk := fun o' d' => hK μ2 o' d' (mt_R_m R2 (by omega))
    rcases hcc with ⟨rfl, rfl, rfl⟩ | hcc
    · simp (discharger := omega) only [f_law_C248, f_L_bring, f_X10_thrown, nI_add, mt_mul, nI_clamp, nI_leI, nI_ltI, nI_eq, mt_in_t, mt_b1, mt_b2, mt_b3, mt_b4, mt_l, mt_g, ↓reduceIte, Nat.reduceEqDiff, Nat.reduceLeDiff, ml_0, ml_1, ml_2, ml_3, ml_4, ml_5, ml_6, ml_7, ml_8, ml_9, ml_10, ml_11, ml_12, ml_13, ml_14, ml_16, ml_31, ml_32, ml_40, ml_42, ml_48, ml_50, ml_57, ml_59, ml_60, ml_63, ml_98, ml_100, ml_103, ml_104, ml_105, ml_106, ml_107, ml_108, ml_109, ml_110, ml_111, ml_112, ml_113, ml_114, ml_115, ml_120, ml_127, ml_176, ml_180, ml_200, ml_254, ml_255, ml_256, ml_300, ml_728, ml_832, ml_65536, q, e1, e2', e3, mt_cmp, hk]
    · rcases hcc with ⟨rfl, rfl⟩ | ⟨rfl, rfl⟩ | ⟨rfl, rfl⟩ <;> simp (discharger := omega) only [f_law_C248, f_L_bring, f_X10_thrown, nI_add, mt_mul, nI_clamp, nI_leI, nI_ltI, nI_eq, mt_in_t, mt_b1, mt_b2, mt_b3, mt_b4, mt_l, mt_g, ↓reduceIte, Nat.reduceEqDiff, Nat.reduceLeDiff, ml_0, ml_1, ml_2, ml_3, ml_4, ml_5, ml_6, ml_7, ml_8, ml_9, ml_10, ml_11, ml_12, ml_13, ml_14, ml_16, ml_31, ml_32, ml_40, ml_42, ml_48, ml_50, ml_57, ml_59, ml_60, ml_63, ml_98, ml_100, ml_103, ml_104, ml_105, ml_106, ml_107, ml_108, ml_109, ml_110, ml_111, ml_112, ml_113, ml_114, ml_115, ml_120, ml_127, ml_176, ml_180, ml_200, ml_254, ml_255, ml_256, ml_300, ml_728, ml_832, ml_65536, q, e1, e2', e3, mt_cmp, hk]
theorem lw_356 (hR : mt_R B μ) (hL : L ≤ 2560) (hi : i + 5 ≤ L) (hB : B < 100000) (hK : ∀ μ' o' d', mt_R (B + 12) μ' → K μ' o' d' (nI (i + 5)) = some ()) : f_law_C356 K xs L μ o d (nI i) = some () := by
  obtain ⟨μ1, r, k, μ2, r2, t, e1, e2, e3, R2, hcc⟩ := pc_load hR (xs (i + 1)) (xs (i + 2))
  have e2' : f_X10_load μ1 (xs (i + 1)) (xs (i + 2)) = some (μ2, r2) := e2
  have hk := fun o' d' => hK μ2 o' d' (mt_R_m R2 (by omega))
  rcases hcc with ⟨rfl, rfl, rfl⟩ | hcc
  · simp (discharger := omega) only [f_law_C356, f_L_load, f_X10_thrown, nI_add, mt_mul, nI_clamp, nI_leI, nI_ltI, nI_eq, mt_in_t, mt_b1, mt_b2, mt_b3, mt_b4, mt_l, mt_g, ↓reduceIte, Nat.reduceEqDiff, Nat.reduceLeDiff, ml_0, ml_1, ml_2, ml_3, ml_4, ml_5, ml_6, ml_7, ml_8, ml_9, ml_10, ml_11, ml_12, ml_13, ml_14, ml_16, ml_31, ml_32, ml_40, ml_42, ml_48, ml_50, ml_57, ml_59, ml_60, ml_63, ml_98, ml_100, ml_103, ml_104, ml_105, ml_106, ml_107, ml_108, ml_109, ml_110, ml_111, ml_112, ml_113, ml_114, ml_115, ml_120, ml_127, ml_176, ml_180, ml_200, ml_254, ml_255, ml_256, ml_300, ml_728, ml_832, ml_65536, e1, e2', e3, mt_cmp, hk]
  · rcases hcc with ⟨rfl, rfl⟩ | ⟨rfl, rfl⟩ | ⟨rfl, rfl⟩ <;> simp (discharger := omega) only [f_law_C356, f_L_load, f_X10_thrown, nI_add, mt_mul, nI_clamp, nI_leI, nI_ltI, nI_eq, mt_in_t, mt_b1, mt_b2, mt_b3, mt_b4, mt_l, mt_g, ↓reduceIte, Nat.reduceEqDiff, Nat.reduceLeDiff, ml_0, ml_1, ml_2, ml_3, ml_4, ml_5, ml_6, ml_7, ml_8, ml_9, ml_10, ml_11, ml_12, ml_13, ml_14, ml_16, ml_31, ml_32, ml_40, ml_42, ml_48, ml_50, ml_57, ml_59, ml_60, ml_63, ml_98, ml_100, ml_103, ml_104, ml_105, ml_106, ml_107, ml_108, ml_109, ml_110, ml_111, ml_112, ml_113, ml_114, ml_115, ml_120, ml_127, ml_176, ml_180, ml_200, ml_254, ml_255, ml_256, ml_300, ml_728, ml_832, ml_65536, e1, e2', e3, mt_cmp, hk]
theorem lw_424 (hR : mt_R B μ) (hL : L ≤ 2560) (hi : i + 5 ≤ L) (hB : B < 100000) (hK : ∀ μ' o' d', mt_R (B + 12) μ' → K μ' o' d' (nI (i + 5)) = some ()) : f_law_C424 K xs L μ o d (nI i) = some () := by
  obtain ⟨μ1, r, k, μ2, r2, t, e1, e2, e3, R2, hcc⟩ := pc_takeOut hR (xs (i + 1))
  have e2' : f_X10_takeOut μ1 (xs (i + 1)) = some (μ2, r2) := e2
  have hk := fun o' d' => hK μ2 o' d' (mt_R_m R2 (by omega))
  rcases hcc with ⟨rfl, rfl, rfl⟩ | hcc
  · simp (discharger := omega) only [f_law_C424, f_L_takeOut, f_X10_thrown, nI_add, mt_mul, nI_clamp, nI_leI, nI_ltI, nI_eq, mt_in_t, mt_b1, mt_b2, mt_b3, mt_b4, mt_l, mt_g, ↓reduceIte, Nat.reduceEqDiff, Nat.reduceLeDiff, ml_0, ml_1, ml_2, ml_3, ml_4, ml_5, ml_6, ml_7, ml_8, ml_9, ml_10, ml_11, ml_12, ml_13, ml_14, ml_16, ml_31, ml_32, ml_40, ml_42, ml_48, ml_50, ml_57, ml_59, ml_60, ml_63, ml_98, ml_100, ml_103, ml_104, ml_105, ml_106, ml_107, ml_108, ml_109, ml_110, ml_111, ml_112, ml_113, ml_114, ml_115, ml_120, ml_127, ml_176, ml_180, ml_200, ml_254, ml_255, ml_256, ml_300, ml_728, ml_832, ml_65536, e1, e2', e3, mt_cmp, hk]
  · rcases hcc with ⟨rfl, rfl⟩ | ⟨rfl, rfl⟩ <;> simp (discharger := omega) only [f_law_C424, f_L_takeOut, f_X10_thrown, nI_add, mt_mul, nI_clamp, nI_leI, nI_ltI, nI_eq, mt_in_t, mt_b1, mt_b2, mt_b3, mt_b4, mt_l, mt_g, ↓reduceIte, Nat.reduceEqDiff, Nat.reduceLeDiff, ml_0, ml_1, ml_2, ml_3, ml_4, ml_5, ml_6, ml_7, ml_8, ml_9, ml_10, ml_11, ml_12, ml_13, ml_14, ml_16, ml_31, ml_32, ml_40, ml_42, ml_48, ml_50, ml_57, ml_59, ml_60, ml_63, ml_98, ml_100, ml_103, ml_104, ml_105, ml_106, ml_107, ml_108, ml_109, ml_110, ml_111, ml_112, ml_113, ml_114, ml_115, ml_120, ml_127, ml_176, ml_180, ml_200, ml_254, ml_255, ml_256, ml_300, ml_728, ml_832, ml_65536, e1, e2', e3, mt_cmp, hk]
theorem lw_480 (hR : mt_R B μ) (hL : L ≤ 2560) (hi : i + 5 ≤ L) (hB : B < 100000) (hK : ∀ μ' o' d', mt_R (B + 12) μ' → K μ' o' d' (nI (i + 5)) = some ()) : f_law_C480 K xs L μ o d (nI i) = some () := by
  obtain ⟨μ1, r, k, μ2, r2, t, e1, e2, e3, R2, hcc⟩ := pc_setTemperature hR (xs (i + 1)) (xs (i + 2))
  have e2' : f_X10_setTemperature μ1 (xs (i + 1)) (xs (i + 2)) = some (μ2, r2) := e2
  have hk := fun o' d' => hK μ2 o' d' (mt_R_m R2 (by omega))
  rcases hcc with ⟨rfl, rfl, rfl, w1, w2⟩ | hcc
  · simp (discharger := omega) only [f_law_C480, f_L_setTemperature, f_X10_thrown, nI_add, mt_mul, nI_clamp, nI_leI, nI_ltI, nI_eq, mt_in_t, mt_b1, mt_b2, mt_b3, mt_b4, mt_l, mt_g, ↓reduceIte, Nat.reduceEqDiff, Nat.reduceLeDiff, ml_0, ml_1, ml_2, ml_3, ml_4, ml_5, ml_6, ml_7, ml_8, ml_9, ml_10, ml_11, ml_12, ml_13, ml_14, ml_16, ml_31, ml_32, ml_40, ml_42, ml_48, ml_50, ml_57, ml_59, ml_60, ml_63, ml_98, ml_100, ml_103, ml_104, ml_105, ml_106, ml_107, ml_108, ml_109, ml_110, ml_111, ml_112, ml_113, ml_114, ml_115, ml_120, ml_127, ml_176, ml_180, ml_200, ml_254, ml_255, ml_256, ml_300, ml_728, ml_832, ml_65536, e1, e2', e3, mt_cmp, hk, w1, w2]
  · rcases hcc with ⟨rfl, rfl⟩ | ⟨rfl, rfl⟩ <;> simp (discharger := omega) only [f_law_C480, f_L_setTemperature, f_X10_thrown, nI_add, mt_mul, nI_clamp, nI_leI, nI_ltI, nI_eq, mt_in_t, mt_b1, mt_b2, mt_b3, mt_b4, mt_l, mt_g, ↓reduceIte, Nat.reduceEqDiff, Nat.reduceLeDiff, ml_0, ml_1, ml_2, ml_3, ml_4, ml_5, ml_6, ml_7, ml_8, ml_9, ml_10, ml_11, ml_12, ml_13, ml_14, ml_16, ml_31, ml_32, ml_40, ml_42, ml_48, ml_50, ml_57, ml_59, ml_60, ml_63, ml_98, ml_100, ml_103, ml_104, ml_105, ml_106, ml_107, ml_108, ml_109, ml_110, ml_111, ml_112, ml_113, ml_114, ml_115, ml_120, ml_127, ml_176, ml_180, ml_200, ml_254, ml_255, ml_256, ml_300, ml_728, ml_832, ml_65536, e1, e2', e3, mt_cmp, hk]
theorem lw_570 (hR : mt_R B μ) (hL : L ≤ 2560) (hi : i + 5 ≤ L) (hB : B < 100000) (hK : ∀ μ' o' d', mt_R (B + 12) μ' → K μ' o' d' (nI (i + 5)) = some ()) : f_law_C570 K xs L μ o d (nI i) = some () := by
  obtain ⟨μ1, r, k, μ2, r2, t, e1, e2, e3, R2, hcc⟩ := pc_run hR (by omega) (xs (i + 1))
  have e2' : f_X10_run μ1 (xs (i + 1)) = some (μ2, r2) := e2
  have hk := fun o' d' => hK μ2 o' d' (mt_R_m R2 (by omega))
  rcases hcc with ⟨rfl, rfl, rfl⟩ | hcc
  · simp (discharger := omega) only [f_law_C570, f_L_run, f_X10_thrown, nI_add, mt_mul, nI_clamp, nI_leI, nI_ltI, nI_eq, mt_in_t, mt_b1, mt_b2, mt_b3, mt_b4, mt_l, mt_g, ↓reduceIte, Nat.reduceEqDiff, Nat.reduceLeDiff, ml_0, ml_1, ml_2, ml_3, ml_4, ml_5, ml_6, ml_7, ml_8, ml_9, ml_10, ml_11, ml_12, ml_13, ml_14, ml_16, ml_31, ml_32, ml_40, ml_42, ml_48, ml_50, ml_57, ml_59, ml_60, ml_63, ml_98, ml_100, ml_103, ml_104, ml_105, ml_106, ml_107, ml_108, ml_109, ml_110, ml_111, ml_112, ml_113, ml_114, ml_115, ml_120, ml_127, ml_176, ml_180, ml_200, ml_254, ml_255, ml_256, ml_300, ml_728, ml_832, ml_65536, e1, e2', e3, mt_cmp, hk]
  · rcases hcc with ⟨rfl, rfl⟩ | ⟨rfl, rfl⟩ <;> simp (discharger := omega) only [f_law_C570, f_L_run, f_X10_thrown, nI_add, mt_mul, nI_clamp, nI_leI, nI_ltI, nI_eq, mt_in_t, mt_b1, mt_b2, mt_b3, mt_b4, mt_l, mt_g, ↓reduceIte, Nat.reduceEqDiff, Nat.reduceLeDiff, ml_0, ml_1, ml_2, ml_3, ml_4, ml_5, ml_6, ml_7, ml_8, ml_9, ml_10, ml_11, ml_12, ml_13, ml_14, ml_16, ml_31, ml_32, ml_40, ml_42, ml_48, ml_50, ml_57, ml_59, ml_60, ml_63, ml_98, ml_100, ml_103, ml_104, ml_105, ml_106, ml_107, ml_108, ml_109, ml_110, ml_111, ml_112, ml_113, ml_114, ml_115, ml_120, ml_127, ml_176, ml_180, ml_200, ml_254, ml_255, ml_256, ml_300, ml_728, ml_832, ml_65536, e1, e2', e3, mt_cmp, hk]
theorem lw_626 (hR : mt_R B μ) (hL : L ≤ 2560) (hi : i + 5 ≤ L) (hB : B < 100000) (hK : ∀ μ' o' d', mt_R (B + 12) μ' → K μ' o' d' (nI (i + 5)) = some ()) : f_law_C626 K xs L μ o d (nI i) = some () := by
  obtain ⟨r, μ2, e1, e2, R2⟩ := pc_garmentCount hR
  have hk := fun o' d' => hK μ2 o' d' (mt_R_m R2 (by omega))
  simp (discharger := omega) only [f_law_C626, nI_add, mt_mul, nI_clamp, nI_leI, nI_ltI, nI_eq, mt_in_t, mt_b1, mt_b2, mt_b3, mt_b4, mt_l, mt_g, ↓reduceIte, Nat.reduceEqDiff, Nat.reduceLeDiff, ml_0, ml_1, ml_2, ml_3, ml_4, ml_5, ml_6, ml_7, ml_8, ml_9, ml_10, ml_11, ml_12, ml_13, ml_14, ml_16, ml_31, ml_32, ml_40, ml_42, ml_48, ml_50, ml_57, ml_59, ml_60, ml_63, ml_98, ml_100, ml_103, ml_104, ml_105, ml_106, ml_107, ml_108, ml_109, ml_110, ml_111, ml_112, ml_113, ml_114, ml_115, ml_120, ml_127, ml_176, ml_180, ml_200, ml_254, ml_255, ml_256, ml_300, ml_728, ml_832, ml_65536, e1, e2, hk]
theorem lw_639 (hR : mt_R B μ) (hL : L ≤ 2560) (hi : i + 5 ≤ L) (hB : B < 100000) (hK : ∀ μ' o' d', mt_R (B + 12) μ' → K μ' o' d' (nI (i + 5)) = some ()) : f_law_C639 K xs L μ o d (nI i) = some () := by
  obtain ⟨μ1, r, k, μ2, r2, t, e1, e2, e3, R2, hcc⟩ := pc_client hR (xs (i + 1))
  have e2' : f_X10_client μ1 (xs (i + 1)) = some (μ2, r2) := e2
  have hk := fun o' d' => hK μ2 o' d' (mt_R_m R2 (by omega))
  rcases hcc with ⟨rfl, rfl, rfl⟩ | hcc
  · simp (discharger := omega) only [f_law_C639, f_L_client, f_X10_thrown, nI_add, mt_mul, nI_clamp, nI_leI, nI_ltI, nI_eq, mt_in_t, mt_b1, mt_b2, mt_b3, mt_b4, mt_l, mt_g, ↓reduceIte, Nat.reduceEqDiff, Nat.reduceLeDiff, ml_0, ml_1, ml_2, ml_3, ml_4, ml_5, ml_6, ml_7, ml_8, ml_9, ml_10, ml_11, ml_12, ml_13, ml_14, ml_16, ml_31, ml_32, ml_40, ml_42, ml_48, ml_50, ml_57, ml_59, ml_60, ml_63, ml_98, ml_100, ml_103, ml_104, ml_105, ml_106, ml_107, ml_108, ml_109, ml_110, ml_111, ml_112, ml_113, ml_114, ml_115, ml_120, ml_127, ml_176, ml_180, ml_200, ml_254, ml_255, ml_256, ml_300, ml_728, ml_832, ml_65536, e1, e2', e3, mt_cmp, hk]
  · rcases hcc with ⟨rfl, rfl⟩ <;> simp (discharger := omega) only [f_law_C639, f_L_client, f_X10_thrown, nI_add, mt_mul, nI_clamp, nI_leI, nI_ltI, nI_eq, mt_in_t, mt_b1, mt_b2, mt_b3, mt_b4, mt_l, mt_g, ↓reduceIte, Nat.reduceEqDiff, Nat.reduceLeDiff, ml_0, ml_1, ml_2, ml_3, ml_4, ml_5, ml_6, ml_7, ml_8, ml_9, ml_10, ml_11, ml_12, ml_13, ml_14, ml_16, ml_31, ml_32, ml_40, ml_42, ml_48, ml_50, ml_57, ml_59, ml_60, ml_63, ml_98, ml_100, ml_103, ml_104, ml_105, ml_106, ml_107, ml_108, ml_109, ml_110, ml_111, ml_112, ml_113, ml_114, ml_115, ml_120, ml_127, ml_176, ml_180, ml_200, ml_254, ml_255, ml_256, ml_300, ml_728, ml_832, ml_65536, e1, e2', e3, mt_cmp, hk]
theorem lw_695 (hR : mt_R B μ) (hL : L ≤ 2560) (hi : i + 5 ≤ L) (hB : B < 100000) (hK : ∀ μ' o' d', mt_R (B + 12) μ' → K μ' o' d' (nI (i + 5)) = some ()) : f_law_C695 K xs L μ o d (nI i) = some () := by
  obtain ⟨μ1, r, k, μ2, r2, t, e1, e2, e3, R2, hcc⟩ := pc_isSock hR (xs (i + 1))
  have e2' : f_X10_isSock μ1 (xs (i + 1)) = some (μ2, r2) := e2
  have hk := fun o' d' => hK μ2 o' d' (mt_R_m R2 (by omega))
  rcases hcc with ⟨rfl, rfl, rfl, w⟩ | hcc
  · rcases w with rfl | rfl
    · simp (discharger := omega) only [f_law_C695, f_L_isSock, f_X10_thrown, nI_add, mt_mul, nI_clamp, nI_leI, nI_ltI, nI_eq, mt_in_t, mt_b1, mt_b2, mt_b3, mt_b4, mt_l, mt_g, ↓reduceIte, Nat.reduceEqDiff, Nat.reduceLeDiff, ml_0, ml_1, ml_2, ml_3, ml_4, ml_5, ml_6, ml_7, ml_8, ml_9, ml_10, ml_11, ml_12, ml_13, ml_14, ml_16, ml_31, ml_32, ml_40, ml_42, ml_48, ml_50, ml_57, ml_59, ml_60, ml_63, ml_98, ml_100, ml_103, ml_104, ml_105, ml_106, ml_107, ml_108, ml_109, ml_110, ml_111, ml_112, ml_113, ml_114, ml_115, ml_120, ml_127, ml_176, ml_180, ml_200, ml_254, ml_255, ml_256, ml_300, ml_728, ml_832, ml_65536, e1, e2', e3, mt_cmp, hk]
    · simp (discharger := omega) only [f_law_C695, f_L_isSock, f_X10_thrown, nI_add, mt_mul, nI_clamp, nI_leI, nI_ltI, nI_eq, mt_in_t, mt_b1, mt_b2, mt_b3, mt_b4, mt_l, mt_g, ↓reduceIte, Nat.reduceEqDiff, Nat.reduceLeDiff, ml_0, ml_1, ml_2, ml_3, ml_4, ml_5, ml_6, ml_7, ml_8, ml_9, ml_10, ml_11, ml_12, ml_13, ml_14, ml_16, ml_31, ml_32, ml_40, ml_42, ml_48, ml_50, ml_57, ml_59, ml_60, ml_63, ml_98, ml_100, ml_103, ml_104, ml_105, ml_106, ml_107, ml_108, ml_109, ml_110, ml_111, ml_112, ml_113, ml_114, ml_115, ml_120, ml_127, ml_176, ml_180, ml_200, ml_254, ml_255, ml_256, ml_300, ml_728, ml_832, ml_65536, e1, e2', e3, mt_cmp, hk]
  · rcases hcc with ⟨rfl, rfl⟩ <;> simp (discharger := omega) only [f_law_C695, f_L_isSock, f_X10_thrown, nI_add, mt_mul, nI_clamp, nI_leI, nI_ltI, nI_eq, mt_in_t, mt_b1, mt_b2, mt_b3, mt_b4, mt_l, mt_g, ↓reduceIte, Nat.reduceEqDiff, Nat.reduceLeDiff, ml_0, ml_1, ml_2, ml_3, ml_4, ml_5, ml_6, ml_7, ml_8, ml_9, ml_10, ml_11, ml_12, ml_13, ml_14, ml_16, ml_31, ml_32, ml_40, ml_42, ml_48, ml_50, ml_57, ml_59, ml_60, ml_63, ml_98, ml_100, ml_103, ml_104, ml_105, ml_106, ml_107, ml_108, ml_109, ml_110, ml_111, ml_112, ml_113, ml_114, ml_115, ml_120, ml_127, ml_176, ml_180, ml_200, ml_254, ml_255, ml_256, ml_300, ml_728, ml_832, ml_65536, e1, e2', e3, mt_cmp, hk]
theorem lw_758 (hR : mt_R B μ) (hL : L ≤ 2560) (hi : i + 5 ≤ L) (hB : B < 100000) (hK : ∀ μ' o' d', mt_R (B + 12) μ' → K μ' o' d' (nI (i + 5)) = some ()) : f_law_C758 K xs L μ o d (nI i) = some () := by
  obtain ⟨μ1, r, k, μ2, r2, t, e1, e2, e3, R2, hcc⟩ := pc_colour hR (xs (i + 1))
  have e2' : f_X10_colour μ1 (xs (i + 1)) = some (μ2, r2) := e2
  have hk := fun o' d' => hK μ2 o' d' (mt_R_m R2 (by omega))
  rcases hcc with ⟨rfl, rfl, rfl⟩ | hcc
  · simp (discharger := omega) only [f_law_C758, f_L_colour, f_X10_thrown, nI_add, mt_mul, nI_clamp, nI_leI, nI_ltI, nI_eq, mt_in_t, mt_b1, mt_b2, mt_b3, mt_b4, mt_l, mt_g, ↓reduceIte, Nat.reduceEqDiff, Nat.reduceLeDiff, ml_0, ml_1, ml_2, ml_3, ml_4, ml_5, ml_6, ml_7, ml_8, ml_9, ml_10, ml_11, ml_12, ml_13, ml_14, ml_16, ml_31, ml_32, ml_40, ml_42, ml_48, ml_50, ml_57, ml_59, ml_60, ml_63, ml_98, ml_100, ml_103, ml_104, ml_105, ml_106, ml_107, ml_108, ml_109, ml_110, ml_111, ml_112, ml_113, ml_114, ml_115, ml_120, ml_127, ml_176, ml_180, ml_200, ml_254, ml_255, ml_256, ml_300, ml_728, ml_832, ml_65536, e1, e2', e3, mt_cmp, hk]
  · rcases hcc with ⟨rfl, rfl⟩ <;> simp (discharger := omega) only [f_law_C758, f_L_colour, f_X10_thrown, nI_add, mt_mul, nI_clamp, nI_leI, nI_ltI, nI_eq, mt_in_t, mt_b1, mt_b2, mt_b3, mt_b4, mt_l, mt_g, ↓reduceIte, Nat.reduceEqDiff, Nat.reduceLeDiff, ml_0, ml_1, ml_2, ml_3, ml_4, ml_5, ml_6, ml_7, ml_8, ml_9, ml_10, ml_11, ml_12, ml_13, ml_14, ml_16, ml_31, ml_32, ml_40, ml_42, ml_48, ml_50, ml_57, ml_59, ml_60, ml_63, ml_98, ml_100, ml_103, ml_104, ml_105, ml_106, ml_107, ml_108, ml_109, ml_110, ml_111, ml_112, ml_113, ml_114, ml_115, ml_120, ml_127, ml_176, ml_180, ml_200, ml_254, ml_255, ml_256, ml_300, ml_728, ml_832, ml_65536, e1, e2', e3, mt_cmp, hk]
theorem lw_814 (hR : mt_R B μ) (hL : L ≤ 2560) (hi : i + 5 ≤ L) (hB : B < 100000) (hK : ∀ μ' o' d', mt_R (B + 12) μ' → K μ' o' d' (nI (i + 5)) = some ()) : f_law_C814 K xs L μ o d (nI i) = some () := by
  obtain ⟨μ1, r, k, μ2, r2, t, e1, e2, e3, R2, hcc⟩ := pc_stains hR (xs (i + 1))
  have e2' : f_X10_stains μ1 (xs (i + 1)) = some (μ2, r2) := e2
  have hk := fun o' d' => hK μ2 o' d' (mt_R_m R2 (by omega))
  rcases hcc with ⟨rfl, rfl, rfl⟩ | hcc
  · simp (discharger := omega) only [f_law_C814, f_L_stains, f_X10_thrown, nI_add, mt_mul, nI_clamp, nI_leI, nI_ltI, nI_eq, mt_in_t, mt_b1, mt_b2, mt_b3, mt_b4, mt_l, mt_g, ↓reduceIte, Nat.reduceEqDiff, Nat.reduceLeDiff, ml_0, ml_1, ml_2, ml_3, ml_4, ml_5, ml_6, ml_7, ml_8, ml_9, ml_10, ml_11, ml_12, ml_13, ml_14, ml_16, ml_31, ml_32, ml_40, ml_42, ml_48, ml_50, ml_57, ml_59, ml_60, ml_63, ml_98, ml_100, ml_103, ml_104, ml_105, ml_106, ml_107, ml_108, ml_109, ml_110, ml_111, ml_112, ml_113, ml_114, ml_115, ml_120, ml_127, ml_176, ml_180, ml_200, ml_254, ml_255, ml_256, ml_300, ml_728, ml_832, ml_65536, e1, e2', e3, mt_cmp, hk]
  · rcases hcc with ⟨rfl, rfl⟩ <;> simp (discharger := omega) only [f_law_C814, f_L_stains, f_X10_thrown, nI_add, mt_mul, nI_clamp, nI_leI, nI_ltI, nI_eq, mt_in_t, mt_b1, mt_b2, mt_b3, mt_b4, mt_l, mt_g, ↓reduceIte, Nat.reduceEqDiff, Nat.reduceLeDiff, ml_0, ml_1, ml_2, ml_3, ml_4, ml_5, ml_6, ml_7, ml_8, ml_9, ml_10, ml_11, ml_12, ml_13, ml_14, ml_16, ml_31, ml_32, ml_40, ml_42, ml_48, ml_50, ml_57, ml_59, ml_60, ml_63, ml_98, ml_100, ml_103, ml_104, ml_105, ml_106, ml_107, ml_108, ml_109, ml_110, ml_111, ml_112, ml_113, ml_114, ml_115, ml_120, ml_127, ml_176, ml_180, ml_200, ml_254, ml_255, ml_256, ml_300, ml_728, ml_832, ml_65536, e1, e2', e3, mt_cmp, hk]
theorem lw_870 (hR : mt_R B μ) (hL : L ≤ 2560) (hi : i + 5 ≤ L) (hB : B < 100000) (hK : ∀ μ' o' d', mt_R (B + 12) μ' → K μ' o' d' (nI (i + 5)) = some ()) : f_law_C870 K xs L μ o d (nI i) = some () := by
  obtain ⟨μ1, r, k, μ2, r2, t, e1, e2, e3, R2, hcc⟩ := pc_stainCount hR (xs (i + 1))
  have e2' : f_X10_stainCount μ1 (xs (i + 1)) = some (μ2, r2) := e2
  have hk := fun o' d' => hK μ2 o' d' (mt_R_m R2 (by omega))
  rcases hcc with ⟨rfl, rfl, rfl⟩ | hcc
  · simp (discharger := omega) only [f_law_C870, f_L_stainCount, f_X10_thrown, nI_add, mt_mul, nI_clamp, nI_leI, nI_ltI, nI_eq, mt_in_t, mt_b1, mt_b2, mt_b3, mt_b4, mt_l, mt_g, ↓reduceIte, Nat.reduceEqDiff, Nat.reduceLeDiff, ml_0, ml_1, ml_2, ml_3, ml_4, ml_5, ml_6, ml_7, ml_8, ml_9, ml_10, ml_11, ml_12, ml_13, ml_14, ml_16, ml_31, ml_32, ml_40, ml_42, ml_48, ml_50, ml_57, ml_59, ml_60, ml_63, ml_98, ml_100, ml_103, ml_104, ml_105, ml_106, ml_107, ml_108, ml_109, ml_110, ml_111, ml_112, ml_113, ml_114, ml_115, ml_120, ml_127, ml_176, ml_180, ml_200, ml_254, ml_255, ml_256, ml_300, ml_728, ml_832, ml_65536, e1, e2', e3, mt_cmp, hk]
  · rcases hcc with ⟨rfl, rfl⟩ <;> simp (discharger := omega) only [f_law_C870, f_L_stainCount, f_X10_thrown, nI_add, mt_mul, nI_clamp, nI_leI, nI_ltI, nI_eq, mt_in_t, mt_b1, mt_b2, mt_b3, mt_b4, mt_l, mt_g, ↓reduceIte, Nat.reduceEqDiff, Nat.reduceLeDiff, ml_0, ml_1, ml_2, ml_3, ml_4, ml_5, ml_6, ml_7, ml_8, ml_9, ml_10, ml_11, ml_12, ml_13, ml_14, ml_16, ml_31, ml_32, ml_40, ml_42, ml_48, ml_50, ml_57, ml_59, ml_60, ml_63, ml_98, ml_100, ml_103, ml_104, ml_105, ml_106, ml_107, ml_108, ml_109, ml_110, ml_111, ml_112, ml_113, ml_114, ml_115, ml_120, ml_127, ml_176, ml_180, ml_200, ml_254, ml_255, ml_256, ml_300, ml_728, ml_832, ml_65536, e1, e2', e3, mt_cmp, hk]
theorem lw_926 (hR : mt_R B μ) (hL : L ≤ 2560) (hi : i + 5 ≤ L) (hB : B < 100000) (hK : ∀ μ' o' d', mt_R (B + 12) μ' → K μ' o' d' (nI (i + 5)) = some ()) : f_law_C926 K xs L μ o d (nI i) = some () := by
  obtain ⟨μ1, r, k, μ2, r2, t, e1, e2, e3, R2, hcc⟩ := pc_place hR (xs (i + 1))
  have e2' : f_X10_place μ1 (xs (i + 1)) = some (μ2, r2) := e2
  have hk := fun o' d' => hK μ2 o' d' (mt_R_m R2 (by omega))
  rcases hcc with ⟨rfl, rfl, rfl⟩ | hcc
  · simp (discharger := omega) only [f_law_C926, f_L_place, f_X10_thrown, nI_add, mt_mul, nI_clamp, nI_leI, nI_ltI, nI_eq, mt_in_t, mt_b1, mt_b2, mt_b3, mt_b4, mt_l, mt_g, ↓reduceIte, Nat.reduceEqDiff, Nat.reduceLeDiff, ml_0, ml_1, ml_2, ml_3, ml_4, ml_5, ml_6, ml_7, ml_8, ml_9, ml_10, ml_11, ml_12, ml_13, ml_14, ml_16, ml_31, ml_32, ml_40, ml_42, ml_48, ml_50, ml_57, ml_59, ml_60, ml_63, ml_98, ml_100, ml_103, ml_104, ml_105, ml_106, ml_107, ml_108, ml_109, ml_110, ml_111, ml_112, ml_113, ml_114, ml_115, ml_120, ml_127, ml_176, ml_180, ml_200, ml_254, ml_255, ml_256, ml_300, ml_728, ml_832, ml_65536, e1, e2', e3, mt_cmp, hk]
  · rcases hcc with ⟨rfl, rfl⟩ <;> simp (discharger := omega) only [f_law_C926, f_L_place, f_X10_thrown, nI_add, mt_mul, nI_clamp, nI_leI, nI_ltI, nI_eq, mt_in_t, mt_b1, mt_b2, mt_b3, mt_b4, mt_l, mt_g, ↓reduceIte, Nat.reduceEqDiff, Nat.reduceLeDiff, ml_0, ml_1, ml_2, ml_3, ml_4, ml_5, ml_6, ml_7, ml_8, ml_9, ml_10, ml_11, ml_12, ml_13, ml_14, ml_16, ml_31, ml_32, ml_40, ml_42, ml_48, ml_50, ml_57, ml_59, ml_60, ml_63, ml_98, ml_100, ml_103, ml_104, ml_105, ml_106, ml_107, ml_108, ml_109, ml_110, ml_111, ml_112, ml_113, ml_114, ml_115, ml_120, ml_127, ml_176, ml_180, ml_200, ml_254, ml_255, ml_256, ml_300, ml_728, ml_832, ml_65536, e1, e2', e3, mt_cmp, hk]
theorem lw_982 (hR : mt_R B μ) (hL : L ≤ 2560) (hi : i + 5 ≤ L) (hB : B < 100000) (hK : ∀ μ' o' d', mt_R (B + 12) μ' → K μ' o' d' (nI (i + 5)) = some ()) : f_law_C982 K xs L μ o d (nI i) = some () := by
  obtain ⟨μ1, r, k, μ2, r2, t, e1, e2, e3, R2, hcc⟩ := pc_washes hR (xs (i + 1))
  have e2' : f_X10_washes μ1 (xs (i + 1)) = some (μ2, r2) := e2
  have hk := fun o' d' => hK μ2 o' d' (mt_R_m R2 (by omega))
  rcases hcc with ⟨rfl, rfl, rfl⟩ | hcc
  · simp (discharger := omega) only [f_law_C982, f_L_washes, f_X10_thrown, nI_add, mt_mul, nI_clamp, nI_leI, nI_ltI, nI_eq, mt_in_t, mt_b1, mt_b2, mt_b3, mt_b4, mt_l, mt_g, ↓reduceIte, Nat.reduceEqDiff, Nat.reduceLeDiff, ml_0, ml_1, ml_2, ml_3, ml_4, ml_5, ml_6, ml_7, ml_8, ml_9, ml_10, ml_11, ml_12, ml_13, ml_14, ml_16, ml_31, ml_32, ml_40, ml_42, ml_48, ml_50, ml_57, ml_59, ml_60, ml_63, ml_98, ml_100, ml_103, ml_104, ml_105, ml_106, ml_107, ml_108, ml_109, ml_110, ml_111, ml_112, ml_113, ml_114, ml_115, ml_120, ml_127, ml_176, ml_180, ml_200, ml_254, ml_255, ml_256, ml_300, ml_728, ml_832, ml_65536, e1, e2', e3, mt_cmp, hk]
  · rcases hcc with ⟨rfl, rfl⟩ <;> simp (discharger := omega) only [f_law_C982, f_L_washes, f_X10_thrown, nI_add, mt_mul, nI_clamp, nI_leI, nI_ltI, nI_eq, mt_in_t, mt_b1, mt_b2, mt_b3, mt_b4, mt_l, mt_g, ↓reduceIte, Nat.reduceEqDiff, Nat.reduceLeDiff, ml_0, ml_1, ml_2, ml_3, ml_4, ml_5, ml_6, ml_7, ml_8, ml_9, ml_10, ml_11, ml_12, ml_13, ml_14, ml_16, ml_31, ml_32, ml_40, ml_42, ml_48, ml_50, ml_57, ml_59, ml_60, ml_63, ml_98, ml_100, ml_103, ml_104, ml_105, ml_106, ml_107, ml_108, ml_109, ml_110, ml_111, ml_112, ml_113, ml_114, ml_115, ml_120, ml_127, ml_176, ml_180, ml_200, ml_254, ml_255, ml_256, ml_300, ml_728, ml_832, ml_65536, e1, e2', e3, mt_cmp, hk]
theorem lw_1038 (hR : mt_R B μ) (hL : L ≤ 2560) (hi : i + 5 ≤ L) (hB : B < 100000) (hK : ∀ μ' o' d', mt_R (B + 12) μ' → K μ' o' d' (nI (i + 5)) = some ()) : f_law_C1038 K xs L μ o d (nI i) = some () := by
  obtain ⟨μ1, r, k, μ2, r2, t, e1, e2, e3, R2, hcc⟩ := pc_partner hR (xs (i + 1))
  have e2' : f_X10_partner μ1 (xs (i + 1)) = some (μ2, r2) := e2
  have hk := fun o' d' => hK μ2 o' d' (mt_R_m R2 (by omega))
  rcases hcc with ⟨rfl, rfl, rfl⟩ | hcc
  · simp (discharger := omega) only [f_law_C1038, f_L_partner, f_X10_thrown, nI_add, mt_mul, nI_clamp, nI_leI, nI_ltI, nI_eq, mt_in_t, mt_b1, mt_b2, mt_b3, mt_b4, mt_l, mt_g, ↓reduceIte, Nat.reduceEqDiff, Nat.reduceLeDiff, ml_0, ml_1, ml_2, ml_3, ml_4, ml_5, ml_6, ml_7, ml_8, ml_9, ml_10, ml_11, ml_12, ml_13, ml_14, ml_16, ml_31, ml_32, ml_40, ml_42, ml_48, ml_50, ml_57, ml_59, ml_60, ml_63, ml_98, ml_100, ml_103, ml_104, ml_105, ml_106, ml_107, ml_108, ml_109, ml_110, ml_111, ml_112, ml_113, ml_114, ml_115, ml_120, ml_127, ml_176, ml_180, ml_200, ml_254, ml_255, ml_256, ml_300, ml_728, ml_832, ml_65536, e1, e2', e3, mt_cmp, hk]
  · rcases hcc with ⟨rfl, rfl⟩ | ⟨rfl, rfl⟩ | ⟨rfl, rfl⟩ <;> simp (discharger := omega) only [f_law_C1038, f_L_partner, f_X10_thrown, nI_add, mt_mul, nI_clamp, nI_leI, nI_ltI, nI_eq, mt_in_t, mt_b1, mt_b2, mt_b3, mt_b4, mt_l, mt_g, ↓reduceIte, Nat.reduceEqDiff, Nat.reduceLeDiff, ml_0, ml_1, ml_2, ml_3, ml_4, ml_5, ml_6, ml_7, ml_8, ml_9, ml_10, ml_11, ml_12, ml_13, ml_14, ml_16, ml_31, ml_32, ml_40, ml_42, ml_48, ml_50, ml_57, ml_59, ml_60, ml_63, ml_98, ml_100, ml_103, ml_104, ml_105, ml_106, ml_107, ml_108, ml_109, ml_110, ml_111, ml_112, ml_113, ml_114, ml_115, ml_120, ml_127, ml_176, ml_180, ml_200, ml_254, ml_255, ml_256, ml_300, ml_728, ml_832, ml_65536, e1, e2', e3, mt_cmp, hk]
theorem lw_1094 (hR : mt_R B μ) (hL : L ≤ 2560) (hi : i + 5 ≤ L) (hB : B < 100000) (hK : ∀ μ' o' d', mt_R (B + 12) μ' → K μ' o' d' (nI (i + 5)) = some ()) : f_law_C1094 K xs L μ o d (nI i) = some () := by
  obtain ⟨μ1, r, k, μ2, r2, t, e1, e2, e3, R2, hcc⟩ := pc_pairCount hR (xs (i + 1))
  have e2' : f_X10_pairCount μ1 (xs (i + 1)) = some (μ2, r2) := e2
  have hk := fun o' d' => hK μ2 o' d' (mt_R_m R2 (by omega))
  rcases hcc with ⟨rfl, rfl, rfl⟩ | hcc
  · simp (discharger := omega) only [f_law_C1094, f_L_pairCount, f_X10_thrown, nI_add, mt_mul, nI_clamp, nI_leI, nI_ltI, nI_eq, mt_in_t, mt_b1, mt_b2, mt_b3, mt_b4, mt_l, mt_g, ↓reduceIte, Nat.reduceEqDiff, Nat.reduceLeDiff, ml_0, ml_1, ml_2, ml_3, ml_4, ml_5, ml_6, ml_7, ml_8, ml_9, ml_10, ml_11, ml_12, ml_13, ml_14, ml_16, ml_31, ml_32, ml_40, ml_42, ml_48, ml_50, ml_57, ml_59, ml_60, ml_63, ml_98, ml_100, ml_103, ml_104, ml_105, ml_106, ml_107, ml_108, ml_109, ml_110, ml_111, ml_112, ml_113, ml_114, ml_115, ml_120, ml_127, ml_176, ml_180, ml_200, ml_254, ml_255, ml_256, ml_300, ml_728, ml_832, ml_65536, e1, e2', e3, mt_cmp, hk]
  · rcases hcc with ⟨rfl, rfl⟩ <;> simp (discharger := omega) only [f_law_C1094, f_L_pairCount, f_X10_thrown, nI_add, mt_mul, nI_clamp, nI_leI, nI_ltI, nI_eq, mt_in_t, mt_b1, mt_b2, mt_b3, mt_b4, mt_l, mt_g, ↓reduceIte, Nat.reduceEqDiff, Nat.reduceLeDiff, ml_0, ml_1, ml_2, ml_3, ml_4, ml_5, ml_6, ml_7, ml_8, ml_9, ml_10, ml_11, ml_12, ml_13, ml_14, ml_16, ml_31, ml_32, ml_40, ml_42, ml_48, ml_50, ml_57, ml_59, ml_60, ml_63, ml_98, ml_100, ml_103, ml_104, ml_105, ml_106, ml_107, ml_108, ml_109, ml_110, ml_111, ml_112, ml_113, ml_114, ml_115, ml_120, ml_127, ml_176, ml_180, ml_200, ml_254, ml_255, ml_256, ml_300, ml_728, ml_832, ml_65536, e1, e2', e3, mt_cmp, hk]
theorem lw_1150 (hR : mt_R B μ) (hL : L ≤ 2560) (hi : i + 5 ≤ L) (hB : B < 100000) (hK : ∀ μ' o' d', mt_R (B + 12) μ' → K μ' o' d' (nI (i + 5)) = some ()) : f_law_C1150 K xs L μ o d (nI i) = some () := by
  obtain ⟨μ1, r, k, μ2, r2, t, e1, e2, e3, R2, hcc⟩ := pc_pairCountByParity hR (xs (i + 1))
  have e2' : f_X10_pairCountByParity μ1 (xs (i + 1)) = some (μ2, r2) := e2
  have hk := fun o' d' => hK μ2 o' d' (mt_R_m R2 (by omega))
  rcases hcc with ⟨rfl, rfl, rfl⟩ | hcc
  · simp (discharger := omega) only [f_law_C1150, f_L_pairCountByParity, f_X10_thrown, nI_add, mt_mul, nI_clamp, nI_leI, nI_ltI, nI_eq, mt_in_t, mt_b1, mt_b2, mt_b3, mt_b4, mt_l, mt_g, ↓reduceIte, Nat.reduceEqDiff, Nat.reduceLeDiff, ml_0, ml_1, ml_2, ml_3, ml_4, ml_5, ml_6, ml_7, ml_8, ml_9, ml_10, ml_11, ml_12, ml_13, ml_14, ml_16, ml_31, ml_32, ml_40, ml_42, ml_48, ml_50, ml_57, ml_59, ml_60, ml_63, ml_98, ml_100, ml_103, ml_104, ml_105, ml_106, ml_107, ml_108, ml_109, ml_110, ml_111, ml_112, ml_113, ml_114, ml_115, ml_120, ml_127, ml_176, ml_180, ml_200, ml_254, ml_255, ml_256, ml_300, ml_728, ml_832, ml_65536, e1, e2', e3, mt_cmp, hk]
  · rcases hcc with ⟨rfl, rfl⟩ <;> simp (discharger := omega) only [f_law_C1150, f_L_pairCountByParity, f_X10_thrown, nI_add, mt_mul, nI_clamp, nI_leI, nI_ltI, nI_eq, mt_in_t, mt_b1, mt_b2, mt_b3, mt_b4, mt_l, mt_g, ↓reduceIte, Nat.reduceEqDiff, Nat.reduceLeDiff, ml_0, ml_1, ml_2, ml_3, ml_4, ml_5, ml_6, ml_7, ml_8, ml_9, ml_10, ml_11, ml_12, ml_13, ml_14, ml_16, ml_31, ml_32, ml_40, ml_42, ml_48, ml_50, ml_57, ml_59, ml_60, ml_63, ml_98, ml_100, ml_103, ml_104, ml_105, ml_106, ml_107, ml_108, ml_109, ml_110, ml_111, ml_112, ml_113, ml_114, ml_115, ml_120, ml_127, ml_176, ml_180, ml_200, ml_254, ml_255, ml_256, ml_300, ml_728, ml_832, ml_65536, e1, e2', e3, mt_cmp, hk]
theorem lw_1206 (hR : mt_R B μ) (hL : L ≤ 2560) (hi : i + 5 ≤ L) (hB : B < 100000) (hK : ∀ μ' o' d', mt_R (B + 12) μ' → K μ' o' d' (nI (i + 5)) = some ()) : f_law_C1206 K xs L μ o d (nI i) = some () := by
  obtain ⟨μ1, r, k, μ2, r2, t, e1, e2, e3, R2, hcc⟩ := pc_inBag hR (xs (i + 1))
  have e2' : f_X10_inBag μ1 (xs (i + 1)) = some (μ2, r2) := e2
  have hk := fun o' d' => hK μ2 o' d' (mt_R_m R2 (by omega))
  rcases hcc with ⟨rfl, rfl, rfl⟩ | hcc
  · simp (discharger := omega) only [f_law_C1206, f_L_inBag, f_X10_thrown, nI_add, mt_mul, nI_clamp, nI_leI, nI_ltI, nI_eq, mt_in_t, mt_b1, mt_b2, mt_b3, mt_b4, mt_l, mt_g, ↓reduceIte, Nat.reduceEqDiff, Nat.reduceLeDiff, ml_0, ml_1, ml_2, ml_3, ml_4, ml_5, ml_6, ml_7, ml_8, ml_9, ml_10, ml_11, ml_12, ml_13, ml_14, ml_16, ml_31, ml_32, ml_40, ml_42, ml_48, ml_50, ml_57, ml_59, ml_60, ml_63, ml_98, ml_100, ml_103, ml_104, ml_105, ml_106, ml_107, ml_108, ml_109, ml_110, ml_111, ml_112, ml_113, ml_114, ml_115, ml_120, ml_127, ml_176, ml_180, ml_200, ml_254, ml_255, ml_256, ml_300, ml_728, ml_832, ml_65536, e1, e2', e3, mt_cmp, hk]
  · rcases hcc with ⟨rfl, rfl⟩ <;> simp (discharger := omega) only [f_law_C1206, f_L_inBag, f_X10_thrown, nI_add, mt_mul, nI_clamp, nI_leI, nI_ltI, nI_eq, mt_in_t, mt_b1, mt_b2, mt_b3, mt_b4, mt_l, mt_g, ↓reduceIte, Nat.reduceEqDiff, Nat.reduceLeDiff, ml_0, ml_1, ml_2, ml_3, ml_4, ml_5, ml_6, ml_7, ml_8, ml_9, ml_10, ml_11, ml_12, ml_13, ml_14, ml_16, ml_31, ml_32, ml_40, ml_42, ml_48, ml_50, ml_57, ml_59, ml_60, ml_63, ml_98, ml_100, ml_103, ml_104, ml_105, ml_106, ml_107, ml_108, ml_109, ml_110, ml_111, ml_112, ml_113, ml_114, ml_115, ml_120, ml_127, ml_176, ml_180, ml_200, ml_254, ml_255, ml_256, ml_300, ml_728, ml_832, ml_65536, e1, e2', e3, mt_cmp, hk]
theorem lw_1262 (hR : mt_R B μ) (hL : L ≤ 2560) (hi : i + 5 ≤ L) (hB : B < 100000) (hK : ∀ μ' o' d', mt_R (B + 12) μ' → K μ' o' d' (nI (i + 5)) = some ()) : f_law_C1262 K xs L μ o d (nI i) = some () := by
  obtain ⟨μ1, r, k, μ2, r2, t, e1, e2, e3, R2, hcc⟩ := pc_inMachine hR (xs (i + 1))
  have e2' : f_X10_inMachine μ1 (xs (i + 1)) = some (μ2, r2) := e2
  have hk := fun o' d' => hK μ2 o' d' (mt_R_m R2 (by omega))
  rcases hcc with ⟨rfl, rfl, rfl⟩ | hcc
  · simp (discharger := omega) only [f_law_C1262, f_L_inMachine, f_X10_thrown, nI_add, mt_mul, nI_clamp, nI_leI, nI_ltI, nI_eq, mt_in_t, mt_b1, mt_b2, mt_b3, mt_b4, mt_l, mt_g, ↓reduceIte, Nat.reduceEqDiff, Nat.reduceLeDiff, ml_0, ml_1, ml_2, ml_3, ml_4, ml_5, ml_6, ml_7, ml_8, ml_9, ml_10, ml_11, ml_12, ml_13, ml_14, ml_16, ml_31, ml_32, ml_40, ml_42, ml_48, ml_50, ml_57, ml_59, ml_60, ml_63, ml_98, ml_100, ml_103, ml_104, ml_105, ml_106, ml_107, ml_108, ml_109, ml_110, ml_111, ml_112, ml_113, ml_114, ml_115, ml_120, ml_127, ml_176, ml_180, ml_200, ml_254, ml_255, ml_256, ml_300, ml_728, ml_832, ml_65536, e1, e2', e3, mt_cmp, hk]
  · rcases hcc with ⟨rfl, rfl⟩ <;> simp (discharger := omega) only [f_law_C1262, f_L_inMachine, f_X10_thrown, nI_add, mt_mul, nI_clamp, nI_leI, nI_ltI, nI_eq, mt_in_t, mt_b1, mt_b2, mt_b3, mt_b4, mt_l, mt_g, ↓reduceIte, Nat.reduceEqDiff, Nat.reduceLeDiff, ml_0, ml_1, ml_2, ml_3, ml_4, ml_5, ml_6, ml_7, ml_8, ml_9, ml_10, ml_11, ml_12, ml_13, ml_14, ml_16, ml_31, ml_32, ml_40, ml_42, ml_48, ml_50, ml_57, ml_59, ml_60, ml_63, ml_98, ml_100, ml_103, ml_104, ml_105, ml_106, ml_107, ml_108, ml_109, ml_110, ml_111, ml_112, ml_113, ml_114, ml_115, ml_120, ml_127, ml_176, ml_180, ml_200, ml_254, ml_255, ml_256, ml_300, ml_728, ml_832, ml_65536, e1, e2', e3, mt_cmp, hk]
theorem lw_1318 (hR : mt_R B μ) (hL : L ≤ 2560) (hi : i + 5 ≤ L) (hB : B < 100000) (hK : ∀ μ' o' d', mt_R (B + 12) μ' → K μ' o' d' (nI (i + 5)) = some ()) : f_law_C1318 K xs L μ o d (nI i) = some () := by
  obtain ⟨r, μ2, e1, e2, R2⟩ := pc_lost hR
  have hk := fun o' d' => hK μ2 o' d' (mt_R_m R2 (by omega))
  simp (discharger := omega) only [f_law_C1318, nI_add, mt_mul, nI_clamp, nI_leI, nI_ltI, nI_eq, mt_in_t, mt_b1, mt_b2, mt_b3, mt_b4, mt_l, mt_g, ↓reduceIte, Nat.reduceEqDiff, Nat.reduceLeDiff, ml_0, ml_1, ml_2, ml_3, ml_4, ml_5, ml_6, ml_7, ml_8, ml_9, ml_10, ml_11, ml_12, ml_13, ml_14, ml_16, ml_31, ml_32, ml_40, ml_42, ml_48, ml_50, ml_57, ml_59, ml_60, ml_63, ml_98, ml_100, ml_103, ml_104, ml_105, ml_106, ml_107, ml_108, ml_109, ml_110, ml_111, ml_112, ml_113, ml_114, ml_115, ml_120, ml_127, ml_176, ml_180, ml_200, ml_254, ml_255, ml_256, ml_300, ml_728, ml_832, ml_65536, e1, e2, hk]
theorem lw_1331 (hR : mt_R B μ) (hL : L ≤ 2560) (hi : i + 5 ≤ L) (hB : B < 100000) (hK : ∀ μ' o' d', mt_R (B + 12) μ' → K μ' o' d' (nI (i + 5)) = some ()) : f_law_C1331 K xs L μ o d (nI i) = some () := by
  obtain ⟨μ1, r, k, μ2, r2, t, e1, e2, e3, R2, hcc⟩ := pc_temperature hR (xs (i + 1))
  have e2' : f_X10_temperature μ1 (xs (i + 1)) = some (μ2, r2) := e2
  have hk := fun o' d' => hK μ2 o' d' (mt_R_m R2 (by omega))
  rcases hcc with ⟨rfl, rfl, rfl, w1, w2⟩ | hcc
  · simp (discharger := omega) only [f_law_C1331, f_L_temperature, f_X10_thrown, nI_add, mt_mul, nI_clamp, nI_leI, nI_ltI, nI_eq, mt_in_t, mt_b1, mt_b2, mt_b3, mt_b4, mt_l, mt_g, ↓reduceIte, Nat.reduceEqDiff, Nat.reduceLeDiff, ml_0, ml_1, ml_2, ml_3, ml_4, ml_5, ml_6, ml_7, ml_8, ml_9, ml_10, ml_11, ml_12, ml_13, ml_14, ml_16, ml_31, ml_32, ml_40, ml_42, ml_48, ml_50, ml_57, ml_59, ml_60, ml_63, ml_98, ml_100, ml_103, ml_104, ml_105, ml_106, ml_107, ml_108, ml_109, ml_110, ml_111, ml_112, ml_113, ml_114, ml_115, ml_120, ml_127, ml_176, ml_180, ml_200, ml_254, ml_255, ml_256, ml_300, ml_728, ml_832, ml_65536, e1, e2', e3, mt_cmp, hk, w1, w2]
  · rcases hcc with ⟨rfl, rfl⟩ <;> simp (discharger := omega) only [f_law_C1331, f_L_temperature, f_X10_thrown, nI_add, mt_mul, nI_clamp, nI_leI, nI_ltI, nI_eq, mt_in_t, mt_b1, mt_b2, mt_b3, mt_b4, mt_l, mt_g, ↓reduceIte, Nat.reduceEqDiff, Nat.reduceLeDiff, ml_0, ml_1, ml_2, ml_3, ml_4, ml_5, ml_6, ml_7, ml_8, ml_9, ml_10, ml_11, ml_12, ml_13, ml_14, ml_16, ml_31, ml_32, ml_40, ml_42, ml_48, ml_50, ml_57, ml_59, ml_60, ml_63, ml_98, ml_100, ml_103, ml_104, ml_105, ml_106, ml_107, ml_108, ml_109, ml_110, ml_111, ml_112, ml_113, ml_114, ml_115, ml_120, ml_127, ml_176, ml_180, ml_200, ml_254, ml_255, ml_256, ml_300, ml_728, ml_832, ml_65536, e1, e2', e3, mt_cmp, hk]
theorem lw_1409 (hR : mt_R B μ) (hL : L ≤ 2560) (hi : i + 5 ≤ L) (hB : B < 100000) (hK : ∀ μ' o' d', mt_R (B + 12) μ' → K μ' o' d' (nI (i + 5)) = some ()) : f_law_C1409 K xs L μ o d (nI i) = some () := by
  obtain ⟨μ1, r, k, μ2, r2, t, e1, e2, e3, R2, hcc⟩ := pc_temperatureBits hR (xs (i + 1))
  have e2' : f_X10_temperatureBits μ1 (xs (i + 1)) = some (μ2, r2) := e2
  have hk := fun o' d' => hK μ2 o' d' (mt_R_m R2 (by omega))
  rcases hcc with ⟨rfl, rfl, rfl⟩ | hcc
  · simp (discharger := omega) only [f_law_C1409, f_L_temperatureBits, f_X10_thrown, nI_add, mt_mul, nI_clamp, nI_leI, nI_ltI, nI_eq, mt_in_t, mt_b1, mt_b2, mt_b3, mt_b4, mt_l, mt_g, ↓reduceIte, Nat.reduceEqDiff, Nat.reduceLeDiff, ml_0, ml_1, ml_2, ml_3, ml_4, ml_5, ml_6, ml_7, ml_8, ml_9, ml_10, ml_11, ml_12, ml_13, ml_14, ml_16, ml_31, ml_32, ml_40, ml_42, ml_48, ml_50, ml_57, ml_59, ml_60, ml_63, ml_98, ml_100, ml_103, ml_104, ml_105, ml_106, ml_107, ml_108, ml_109, ml_110, ml_111, ml_112, ml_113, ml_114, ml_115, ml_120, ml_127, ml_176, ml_180, ml_200, ml_254, ml_255, ml_256, ml_300, ml_728, ml_832, ml_65536, e1, e2', e3, mt_cmp, hk]
  · rcases hcc with ⟨rfl, rfl⟩ <;> simp (discharger := omega) only [f_law_C1409, f_L_temperatureBits, f_X10_thrown, nI_add, mt_mul, nI_clamp, nI_leI, nI_ltI, nI_eq, mt_in_t, mt_b1, mt_b2, mt_b3, mt_b4, mt_l, mt_g, ↓reduceIte, Nat.reduceEqDiff, Nat.reduceLeDiff, ml_0, ml_1, ml_2, ml_3, ml_4, ml_5, ml_6, ml_7, ml_8, ml_9, ml_10, ml_11, ml_12, ml_13, ml_14, ml_16, ml_31, ml_32, ml_40, ml_42, ml_48, ml_50, ml_57, ml_59, ml_60, ml_63, ml_98, ml_100, ml_103, ml_104, ml_105, ml_106, ml_107, ml_108, ml_109, ml_110, ml_111, ml_112, ml_113, ml_114, ml_115, ml_120, ml_127, ml_176, ml_180, ml_200, ml_254, ml_255, ml_256, ml_300, ml_728, ml_832, ml_65536, e1, e2', e3, mt_cmp, hk]
theorem lw_1465 (hR : mt_R B μ) (hL : L ≤ 2560) (hi : i + 5 ≤ L) (hB : B < 100000) (hK : ∀ μ' o' d', mt_R (B + 12) μ' → K μ' o' d' (nI (i + 5)) = some ()) : f_law_C1465 K xs L μ o d (nI i) = some () := by
  obtain ⟨μ1, r, k, μ2, r2, t, e1, e2, e3, R2, hcc⟩ := pc_washableStains hR (xs (i + 1))
  have e2' : f_X10_washableStains μ1 (xs (i + 1)) = some (μ2, r2) := e2
  have hk := fun o' d' => hK μ2 o' d' (mt_R_m R2 (by omega))
  rcases hcc with ⟨rfl, rfl, rfl⟩ | hcc
  · simp (discharger := omega) only [f_law_C1465, f_L_washableStains, f_X10_thrown, nI_add, mt_mul, nI_clamp, nI_leI, nI_ltI, nI_eq, mt_in_t, mt_b1, mt_b2, mt_b3, mt_b4, mt_l, mt_g, ↓reduceIte, Nat.reduceEqDiff, Nat.reduceLeDiff, ml_0, ml_1, ml_2, ml_3, ml_4, ml_5, ml_6, ml_7, ml_8, ml_9, ml_10, ml_11, ml_12, ml_13, ml_14, ml_16, ml_31, ml_32, ml_40, ml_42, ml_48, ml_50, ml_57, ml_59, ml_60, ml_63, ml_98, ml_100, ml_103, ml_104, ml_105, ml_106, ml_107, ml_108, ml_109, ml_110, ml_111, ml_112, ml_113, ml_114, ml_115, ml_120, ml_127, ml_176, ml_180, ml_200, ml_254, ml_255, ml_256, ml_300, ml_728, ml_832, ml_65536, e1, e2', e3, mt_cmp, hk]
  · rcases hcc with ⟨rfl, rfl⟩ <;> simp (discharger := omega) only [f_law_C1465, f_L_washableStains, f_X10_thrown, nI_add, mt_mul, nI_clamp, nI_leI, nI_ltI, nI_eq, mt_in_t, mt_b1, mt_b2, mt_b3, mt_b4, mt_l, mt_g, ↓reduceIte, Nat.reduceEqDiff, Nat.reduceLeDiff, ml_0, ml_1, ml_2, ml_3, ml_4, ml_5, ml_6, ml_7, ml_8, ml_9, ml_10, ml_11, ml_12, ml_13, ml_14, ml_16, ml_31, ml_32, ml_40, ml_42, ml_48, ml_50, ml_57, ml_59, ml_60, ml_63, ml_98, ml_100, ml_103, ml_104, ml_105, ml_106, ml_107, ml_108, ml_109, ml_110, ml_111, ml_112, ml_113, ml_114, ml_115, ml_120, ml_127, ml_176, ml_180, ml_200, ml_254, ml_255, ml_256, ml_300, ml_728, ml_832, ml_65536, e1, e2', e3, mt_cmp, hk]
theorem lw_1521 (hR : mt_R B μ) (hL : L ≤ 2560) (hi : i + 5 ≤ L) (hB : B < 100000) (hK : ∀ μ' o' d', mt_R (B + 12) μ' → K μ' o' d' (nI (i + 5)) = some ()) : f_law_C1521 K xs L μ o d (nI i) = some () := by
  obtain ⟨μ1, r, k, μ2, r2, t, e1, e2, e3, R2, hcc⟩ := pc_commonStains hR (xs (i + 1))
  have e2' : f_X10_commonStains μ1 (xs (i + 1)) = some (μ2, r2) := e2
  have hk := fun o' d' => hK μ2 o' d' (mt_R_m R2 (by omega))
  rcases hcc with ⟨rfl, rfl, rfl⟩ | hcc
  · simp (discharger := omega) only [f_law_C1521, f_L_commonStains, f_X10_thrown, nI_add, mt_mul, nI_clamp, nI_leI, nI_ltI, nI_eq, mt_in_t, mt_b1, mt_b2, mt_b3, mt_b4, mt_l, mt_g, ↓reduceIte, Nat.reduceEqDiff, Nat.reduceLeDiff, ml_0, ml_1, ml_2, ml_3, ml_4, ml_5, ml_6, ml_7, ml_8, ml_9, ml_10, ml_11, ml_12, ml_13, ml_14, ml_16, ml_31, ml_32, ml_40, ml_42, ml_48, ml_50, ml_57, ml_59, ml_60, ml_63, ml_98, ml_100, ml_103, ml_104, ml_105, ml_106, ml_107, ml_108, ml_109, ml_110, ml_111, ml_112, ml_113, ml_114, ml_115, ml_120, ml_127, ml_176, ml_180, ml_200, ml_254, ml_255, ml_256, ml_300, ml_728, ml_832, ml_65536, e1, e2', e3, mt_cmp, hk]
  · rcases hcc with ⟨rfl, rfl⟩ <;> simp (discharger := omega) only [f_law_C1521, f_L_commonStains, f_X10_thrown, nI_add, mt_mul, nI_clamp, nI_leI, nI_ltI, nI_eq, mt_in_t, mt_b1, mt_b2, mt_b3, mt_b4, mt_l, mt_g, ↓reduceIte, Nat.reduceEqDiff, Nat.reduceLeDiff, ml_0, ml_1, ml_2, ml_3, ml_4, ml_5, ml_6, ml_7, ml_8, ml_9, ml_10, ml_11, ml_12, ml_13, ml_14, ml_16, ml_31, ml_32, ml_40, ml_42, ml_48, ml_50, ml_57, ml_59, ml_60, ml_63, ml_98, ml_100, ml_103, ml_104, ml_105, ml_106, ml_107, ml_108, ml_109, ml_110, ml_111, ml_112, ml_113, ml_114, ml_115, ml_120, ml_127, ml_176, ml_180, ml_200, ml_254, ml_255, ml_256, ml_300, ml_728, ml_832, ml_65536, e1, e2', e3, mt_cmp, hk]
theorem lw_1577 (hR : mt_R B μ) (hL : L ≤ 2560) (hi : i + 5 ≤ L) (hB : B < 100000) (hK : ∀ μ' o' d', mt_R (B + 12) μ' → K μ' o' d' (nI (i + 5)) = some ()) : f_law_C1577 K xs L μ o d (nI i) = some () := by
  obtain ⟨μ1, r, k, μ2, r2, t, e1, e2, e3, R2, hcc⟩ := pc_coloursIn hR (xs (i + 1))
  have e2' : f_X10_coloursIn μ1 (xs (i + 1)) = some (μ2, r2) := e2
  have hk := fun o' d' => hK μ2 o' d' (mt_R_m R2 (by omega))
  rcases hcc with ⟨rfl, rfl, rfl⟩ | hcc
  · simp (discharger := omega) only [f_law_C1577, f_L_coloursIn, f_X10_thrown, nI_add, mt_mul, nI_clamp, nI_leI, nI_ltI, nI_eq, mt_in_t, mt_b1, mt_b2, mt_b3, mt_b4, mt_l, mt_g, ↓reduceIte, Nat.reduceEqDiff, Nat.reduceLeDiff, ml_0, ml_1, ml_2, ml_3, ml_4, ml_5, ml_6, ml_7, ml_8, ml_9, ml_10, ml_11, ml_12, ml_13, ml_14, ml_16, ml_31, ml_32, ml_40, ml_42, ml_48, ml_50, ml_57, ml_59, ml_60, ml_63, ml_98, ml_100, ml_103, ml_104, ml_105, ml_106, ml_107, ml_108, ml_109, ml_110, ml_111, ml_112, ml_113, ml_114, ml_115, ml_120, ml_127, ml_176, ml_180, ml_200, ml_254, ml_255, ml_256, ml_300, ml_728, ml_832, ml_65536, e1, e2', e3, mt_cmp, hk]
  · rcases hcc with ⟨rfl, rfl⟩ <;> simp (discharger := omega) only [f_law_C1577, f_L_coloursIn, f_X10_thrown, nI_add, mt_mul, nI_clamp, nI_leI, nI_ltI, nI_eq, mt_in_t, mt_b1, mt_b2, mt_b3, mt_b4, mt_l, mt_g, ↓reduceIte, Nat.reduceEqDiff, Nat.reduceLeDiff, ml_0, ml_1, ml_2, ml_3, ml_4, ml_5, ml_6, ml_7, ml_8, ml_9, ml_10, ml_11, ml_12, ml_13, ml_14, ml_16, ml_31, ml_32, ml_40, ml_42, ml_48, ml_50, ml_57, ml_59, ml_60, ml_63, ml_98, ml_100, ml_103, ml_104, ml_105, ml_106, ml_107, ml_108, ml_109, ml_110, ml_111, ml_112, ml_113, ml_114, ml_115, ml_120, ml_127, ml_176, ml_180, ml_200, ml_254, ml_255, ml_256, ml_300, ml_728, ml_832, ml_65536, e1, e2', e3, mt_cmp, hk]
theorem lw_1633 (hR : mt_R B μ) (hL : L ≤ 2560) (hi : i + 5 ≤ L) (hB : B < 100000) (hK : ∀ μ' o' d', mt_R (B + 12) μ' → K μ' o' d' (nI (i + 5)) = some ()) : f_law_C1633 K xs L μ o d (nI i) = some () := by
  obtain ⟨μ1, r, k, μ2, r2, t, e1, e2, e3, R2, hcc⟩ := pc_damage hR (xs (i + 1))
  have e2' : f_X10_damage μ1 (xs (i + 1)) = some (μ2, r2) := e2
  have hk := fun o' d' => hK μ2 o' d' (mt_R_m R2 (by omega))
  rcases hcc with ⟨rfl, rfl, rfl⟩ | hcc
  · simp (discharger := omega) only [f_law_C1633, f_L_damage, f_X10_thrown, nI_add, mt_mul, nI_clamp, nI_leI, nI_ltI, nI_eq, mt_in_t, mt_b1, mt_b2, mt_b3, mt_b4, mt_l, mt_g, ↓reduceIte, Nat.reduceEqDiff, Nat.reduceLeDiff, ml_0, ml_1, ml_2, ml_3, ml_4, ml_5, ml_6, ml_7, ml_8, ml_9, ml_10, ml_11, ml_12, ml_13, ml_14, ml_16, ml_31, ml_32, ml_40, ml_42, ml_48, ml_50, ml_57, ml_59, ml_60, ml_63, ml_98, ml_100, ml_103, ml_104, ml_105, ml_106, ml_107, ml_108, ml_109, ml_110, ml_111, ml_112, ml_113, ml_114, ml_115, ml_120, ml_127, ml_176, ml_180, ml_200, ml_254, ml_255, ml_256, ml_300, ml_728, ml_832, ml_65536, e1, e2', e3, mt_cmp, hk]
  · rcases hcc with ⟨rfl, rfl⟩ <;> simp (discharger := omega) only [f_law_C1633, f_L_damage, f_X10_thrown, nI_add, mt_mul, nI_clamp, nI_leI, nI_ltI, nI_eq, mt_in_t, mt_b1, mt_b2, mt_b3, mt_b4, mt_l, mt_g, ↓reduceIte, Nat.reduceEqDiff, Nat.reduceLeDiff, ml_0, ml_1, ml_2, ml_3, ml_4, ml_5, ml_6, ml_7, ml_8, ml_9, ml_10, ml_11, ml_12, ml_13, ml_14, ml_16, ml_31, ml_32, ml_40, ml_42, ml_48, ml_50, ml_57, ml_59, ml_60, ml_63, ml_98, ml_100, ml_103, ml_104, ml_105, ml_106, ml_107, ml_108, ml_109, ml_110, ml_111, ml_112, ml_113, ml_114, ml_115, ml_120, ml_127, ml_176, ml_180, ml_200, ml_254, ml_255, ml_256, ml_300, ml_728, ml_832, ml_65536, e1, e2', e3, mt_cmp, hk]
theorem lw_1689 (hR : mt_R B μ) (hL : L ≤ 2560) (hi : i + 5 ≤ L) (hB : B < 100000) (hK : ∀ μ' o' d', mt_R (B + 12) μ' → K μ' o' d' (nI (i + 5)) = some ()) : f_law_C1689 K xs L μ o d (nI i) = some () := by
  obtain ⟨μ1, r, k, μ2, r2, t, e1, e2, e3, R2, hcc⟩ := pc_damageByMasks hR (xs (i + 1))
  have e2' : f_X10_damageByMasks μ1 (xs (i + 1)) = some (μ2, r2) := e2
  have hk := fun o' d' => hK μ2 o' d' (mt_R_m R2 (by omega))
  rcases hcc with ⟨rfl, rfl, rfl⟩ | hcc
  · simp (discharger := omega) only [f_law_C1689, f_L_damageByMasks, f_X10_thrown, nI_add, mt_mul, nI_clamp, nI_leI, nI_ltI, nI_eq, mt_in_t, mt_b1, mt_b2, mt_b3, mt_b4, mt_l, mt_g, ↓reduceIte, Nat.reduceEqDiff, Nat.reduceLeDiff, ml_0, ml_1, ml_2, ml_3, ml_4, ml_5, ml_6, ml_7, ml_8, ml_9, ml_10, ml_11, ml_12, ml_13, ml_14, ml_16, ml_31, ml_32, ml_40, ml_42, ml_48, ml_50, ml_57, ml_59, ml_60, ml_63, ml_98, ml_100, ml_103, ml_104, ml_105, ml_106, ml_107, ml_108, ml_109, ml_110, ml_111, ml_112, ml_113, ml_114, ml_115, ml_120, ml_127, ml_176, ml_180, ml_200, ml_254, ml_255, ml_256, ml_300, ml_728, ml_832, ml_65536, e1, e2', e3, mt_cmp, hk]
  · rcases hcc with ⟨rfl, rfl⟩ <;> simp (discharger := omega) only [f_law_C1689, f_L_damageByMasks, f_X10_thrown, nI_add, mt_mul, nI_clamp, nI_leI, nI_ltI, nI_eq, mt_in_t, mt_b1, mt_b2, mt_b3, mt_b4, mt_l, mt_g, ↓reduceIte, Nat.reduceEqDiff, Nat.reduceLeDiff, ml_0, ml_1, ml_2, ml_3, ml_4, ml_5, ml_6, ml_7, ml_8, ml_9, ml_10, ml_11, ml_12, ml_13, ml_14, ml_16, ml_31, ml_32, ml_40, ml_42, ml_48, ml_50, ml_57, ml_59, ml_60, ml_63, ml_98, ml_100, ml_103, ml_104, ml_105, ml_106, ml_107, ml_108, ml_109, ml_110, ml_111, ml_112, ml_113, ml_114, ml_115, ml_120, ml_127, ml_176, ml_180, ml_200, ml_254, ml_255, ml_256, ml_300, ml_728, ml_832, ml_65536, e1, e2', e3, mt_cmp, hk]
theorem lw_1745 (hR : mt_R B μ) (hL : L ≤ 2560) (hi : i + 5 ≤ L) (hB : B < 100000) (hK : ∀ μ' o' d', mt_R (B + 12) μ' → K μ' o' d' (nI (i + 5)) = some ()) : f_law_C1745 K xs L μ o d (nI i) = some () := by
  obtain ⟨μ1, r, k, μ2, r2, t, e1, e2, e3, R2, hcc⟩ := pc_bestTemperature hR (xs (i + 1))
  have e2' : f_X10_bestTemperature μ1 (xs (i + 1)) = some (μ2, r2) := e2
  have hk := fun o' d' => hK μ2 o' d' (mt_R_m R2 (by omega))
  rcases hcc with ⟨rfl, rfl, rfl⟩ | hcc
  · simp (discharger := omega) only [f_law_C1745, f_L_bestTemperature, f_X10_thrown, nI_add, mt_mul, nI_clamp, nI_leI, nI_ltI, nI_eq, mt_in_t, mt_b1, mt_b2, mt_b3, mt_b4, mt_l, mt_g, ↓reduceIte, Nat.reduceEqDiff, Nat.reduceLeDiff, ml_0, ml_1, ml_2, ml_3, ml_4, ml_5, ml_6, ml_7, ml_8, ml_9, ml_10, ml_11, ml_12, ml_13, ml_14, ml_16, ml_31, ml_32, ml_40, ml_42, ml_48, ml_50, ml_57, ml_59, ml_60, ml_63, ml_98, ml_100, ml_103, ml_104, ml_105, ml_106, ml_107, ml_108, ml_109, ml_110, ml_111, ml_112, ml_113, ml_114, ml_115, ml_120, ml_127, ml_176, ml_180, ml_200, ml_254, ml_255, ml_256, ml_300, ml_728, ml_832, ml_65536, e1, e2', e3, mt_cmp, hk]
  · rcases hcc with ⟨rfl, rfl⟩ | ⟨rfl, rfl⟩ <;> simp (discharger := omega) only [f_law_C1745, f_L_bestTemperature, f_X10_thrown, nI_add, mt_mul, nI_clamp, nI_leI, nI_ltI, nI_eq, mt_in_t, mt_b1, mt_b2, mt_b3, mt_b4, mt_l, mt_g, ↓reduceIte, Nat.reduceEqDiff, Nat.reduceLeDiff, ml_0, ml_1, ml_2, ml_3, ml_4, ml_5, ml_6, ml_7, ml_8, ml_9, ml_10, ml_11, ml_12, ml_13, ml_14, ml_16, ml_31, ml_32, ml_40, ml_42, ml_48, ml_50, ml_57, ml_59, ml_60, ml_63, ml_98, ml_100, ml_103, ml_104, ml_105, ml_106, ml_107, ml_108, ml_109, ml_110, ml_111, ml_112, ml_113, ml_114, ml_115, ml_120, ml_127, ml_176, ml_180, ml_200, ml_254, ml_255, ml_256, ml_300, ml_728, ml_832, ml_65536, e1, e2', e3, mt_cmp, hk]
theorem lw_1801 (hR : mt_R B μ) (hL : L ≤ 2560) (hi : i + 5 ≤ L) (hB : B < 100000) (hK : ∀ μ' o' d', mt_R (B + 12) μ' → K μ' o' d' (nI (i + 5)) = some ()) : f_law_C1801 K xs L μ o d (nI i) = some () := by
  obtain ⟨μ1, r, k, μ2, r2, t, e1, e2, e3, R2, hcc⟩ := pc_price hR (xs (i + 1)) (xs (i + 2))
  have e2' : f_X10_price μ1 (xs (i + 1)) (xs (i + 2)) = some (μ2, r2) := e2
  have hk := fun o' d' => hK μ2 o' d' (mt_R_m R2 (by omega))
  rcases hcc with ⟨rfl, rfl, rfl, w1, w2⟩ | hcc
  · simp (discharger := omega) only [f_law_C1801, f_L_price, f_X10_thrown, nI_add, mt_mul, nI_clamp, nI_leI, nI_ltI, nI_eq, mt_in_t, mt_b1, mt_b2, mt_b3, mt_b4, mt_l, mt_g, ↓reduceIte, Nat.reduceEqDiff, Nat.reduceLeDiff, ml_0, ml_1, ml_2, ml_3, ml_4, ml_5, ml_6, ml_7, ml_8, ml_9, ml_10, ml_11, ml_12, ml_13, ml_14, ml_16, ml_31, ml_32, ml_40, ml_42, ml_48, ml_50, ml_57, ml_59, ml_60, ml_63, ml_98, ml_100, ml_103, ml_104, ml_105, ml_106, ml_107, ml_108, ml_109, ml_110, ml_111, ml_112, ml_113, ml_114, ml_115, ml_120, ml_127, ml_176, ml_180, ml_200, ml_254, ml_255, ml_256, ml_300, ml_728, ml_832, ml_65536, e1, e2', e3, mt_cmp, hk, w1, w2]
  · rcases hcc with ⟨rfl, rfl⟩ <;> simp (discharger := omega) only [f_law_C1801, f_L_price, f_X10_thrown, nI_add, mt_mul, nI_clamp, nI_leI, nI_ltI, nI_eq, mt_in_t, mt_b1, mt_b2, mt_b3, mt_b4, mt_l, mt_g, ↓reduceIte, Nat.reduceEqDiff, Nat.reduceLeDiff, ml_0, ml_1, ml_2, ml_3, ml_4, ml_5, ml_6, ml_7, ml_8, ml_9, ml_10, ml_11, ml_12, ml_13, ml_14, ml_16, ml_31, ml_32, ml_40, ml_42, ml_48, ml_50, ml_57, ml_59, ml_60, ml_63, ml_98, ml_100, ml_103, ml_104, ml_105, ml_106, ml_107, ml_108, ml_109, ml_110, ml_111, ml_112, ml_113, ml_114, ml_115, ml_120, ml_127, ml_176, ml_180, ml_200, ml_254, ml_255, ml_256, ml_300, ml_728, ml_832, ml_65536, e1, e2', e3, mt_cmp, hk]
theorem lw_1891 (hR : mt_R B μ) (hL : L ≤ 2560) (hi : i + 5 ≤ L) (hB : B < 100000) (hK : ∀ μ' o' d', mt_R (B + 12) μ' → K μ' o' d' (nI (i + 5)) = some ()) : f_law_C1891 K xs L μ o d (nI i) = some () := by
  obtain ⟨μ1, r, k, μ2, r2, t, e1, e2, e3, R2, hcc⟩ := pc_paid hR (xs (i + 1))
  have e2' : f_X10_paid μ1 (xs (i + 1)) = some (μ2, r2) := e2
  have hk := fun o' d' => hK μ2 o' d' (mt_R_m R2 (by omega))
  rcases hcc with ⟨rfl, rfl, rfl, w1, w2⟩ | hcc
  · simp (discharger := omega) only [f_law_C1891, f_L_paid, f_X10_thrown, nI_add, mt_mul, nI_clamp, nI_leI, nI_ltI, nI_eq, mt_in_t, mt_b1, mt_b2, mt_b3, mt_b4, mt_l, mt_g, ↓reduceIte, Nat.reduceEqDiff, Nat.reduceLeDiff, ml_0, ml_1, ml_2, ml_3, ml_4, ml_5, ml_6, ml_7, ml_8, ml_9, ml_10, ml_11, ml_12, ml_13, ml_14, ml_16, ml_31, ml_32, ml_40, ml_42, ml_48, ml_50, ml_57, ml_59, ml_60, ml_63, ml_98, ml_100, ml_103, ml_104, ml_105, ml_106, ml_107, ml_108, ml_109, ml_110, ml_111, ml_112, ml_113, ml_114, ml_115, ml_120, ml_127, ml_176, ml_180, ml_200, ml_254, ml_255, ml_256, ml_300, ml_728, ml_832, ml_65536, e1, e2', e3, mt_cmp, hk, w1, w2]
  · rcases hcc with ⟨rfl, rfl⟩ <;> simp (discharger := omega) only [f_law_C1891, f_L_paid, f_X10_thrown, nI_add, mt_mul, nI_clamp, nI_leI, nI_ltI, nI_eq, mt_in_t, mt_b1, mt_b2, mt_b3, mt_b4, mt_l, mt_g, ↓reduceIte, Nat.reduceEqDiff, Nat.reduceLeDiff, ml_0, ml_1, ml_2, ml_3, ml_4, ml_5, ml_6, ml_7, ml_8, ml_9, ml_10, ml_11, ml_12, ml_13, ml_14, ml_16, ml_31, ml_32, ml_40, ml_42, ml_48, ml_50, ml_57, ml_59, ml_60, ml_63, ml_98, ml_100, ml_103, ml_104, ml_105, ml_106, ml_107, ml_108, ml_109, ml_110, ml_111, ml_112, ml_113, ml_114, ml_115, ml_120, ml_127, ml_176, ml_180, ml_200, ml_254, ml_255, ml_256, ml_300, ml_728, ml_832, ml_65536, e1, e2', e3, mt_cmp, hk]
theorem lw_1969 (hR : mt_R B μ) (hL : L ≤ 2560) (hi : i + 5 ≤ L) (hB : B < 100000) (hK : ∀ μ' o' d', mt_R (B + 12) μ' → K μ' o' d' (nI (i + 5)) = some ()) : f_law_C1969 K xs L μ o d (nI i) = some () := by
  obtain ⟨μ1, r, k, μ2, r2, t, e1, e2, e3, R2, hcc⟩ := pc_paidBits hR (xs (i + 1))
  have e2' : f_X10_paidBits μ1 (xs (i + 1)) = some (μ2, r2) := e2
  have hk := fun o' d' => hK μ2 o' d' (mt_R_m R2 (by omega))
  rcases hcc with ⟨rfl, rfl, rfl⟩ | hcc
  · simp (discharger := omega) only [f_law_C1969, f_L_paidBits, f_X10_thrown, nI_add, mt_mul, nI_clamp, nI_leI, nI_ltI, nI_eq, mt_in_t, mt_b1, mt_b2, mt_b3, mt_b4, mt_l, mt_g, ↓reduceIte, Nat.reduceEqDiff, Nat.reduceLeDiff, ml_0, ml_1, ml_2, ml_3, ml_4, ml_5, ml_6, ml_7, ml_8, ml_9, ml_10, ml_11, ml_12, ml_13, ml_14, ml_16, ml_31, ml_32, ml_40, ml_42, ml_48, ml_50, ml_57, ml_59, ml_60, ml_63, ml_98, ml_100, ml_103, ml_104, ml_105, ml_106, ml_107, ml_108, ml_109, ml_110, ml_111, ml_112, ml_113, ml_114, ml_115, ml_120, ml_127, ml_176, ml_180, ml_200, ml_254, ml_255, ml_256, ml_300, ml_728, ml_832, ml_65536, e1, e2', e3, mt_cmp, hk]
  · rcases hcc with ⟨rfl, rfl⟩ <;> simp (discharger := omega) only [f_law_C1969, f_L_paidBits, f_X10_thrown, nI_add, mt_mul, nI_clamp, nI_leI, nI_ltI, nI_eq, mt_in_t, mt_b1, mt_b2, mt_b3, mt_b4, mt_l, mt_g, ↓reduceIte, Nat.reduceEqDiff, Nat.reduceLeDiff, ml_0, ml_1, ml_2, ml_3, ml_4, ml_5, ml_6, ml_7, ml_8, ml_9, ml_10, ml_11, ml_12, ml_13, ml_14, ml_16, ml_31, ml_32, ml_40, ml_42, ml_48, ml_50, ml_57, ml_59, ml_60, ml_63, ml_98, ml_100, ml_103, ml_104, ml_105, ml_106, ml_107, ml_108, ml_109, ml_110, ml_111, ml_112, ml_113, ml_114, ml_115, ml_120, ml_127, ml_176, ml_180, ml_200, ml_254, ml_255, ml_256, ml_300, ml_728, ml_832, ml_65536, e1, e2', e3, mt_cmp, hk]
theorem lw_2025 (hR : mt_R B μ) (hL : L ≤ 2560) (hi : i + 5 ≤ L) (hB : B < 100000) (hK : ∀ μ' o' d', mt_R (B + 12) μ' → K μ' o' d' (nI (i + 5)) = some ()) : f_law_C2025 K xs L μ o d (nI i) = some () := by
  obtain ⟨μ1, r, k, μ2, r2, t, e1, e2, e3, R2, hcc⟩ := pc_packed hR (xs (i + 1))
  have e2' : f_X10_packed μ1 (xs (i + 1)) = some (μ2, r2) := e2
  have hk := fun o' d' => hK μ2 o' d' (mt_R_m R2 (by omega))
  rcases hcc with ⟨rfl, rfl, rfl⟩ | hcc
  · simp (discharger := omega) only [f_law_C2025, f_L_packed, f_X10_thrown, nI_add, mt_mul, nI_clamp, nI_leI, nI_ltI, nI_eq, mt_in_t, mt_b1, mt_b2, mt_b3, mt_b4, mt_l, mt_g, ↓reduceIte, Nat.reduceEqDiff, Nat.reduceLeDiff, ml_0, ml_1, ml_2, ml_3, ml_4, ml_5, ml_6, ml_7, ml_8, ml_9, ml_10, ml_11, ml_12, ml_13, ml_14, ml_16, ml_31, ml_32, ml_40, ml_42, ml_48, ml_50, ml_57, ml_59, ml_60, ml_63, ml_98, ml_100, ml_103, ml_104, ml_105, ml_106, ml_107, ml_108, ml_109, ml_110, ml_111, ml_112, ml_113, ml_114, ml_115, ml_120, ml_127, ml_176, ml_180, ml_200, ml_254, ml_255, ml_256, ml_300, ml_728, ml_832, ml_65536, e1, e2', e3, mt_cmp, hk]
  · rcases hcc with ⟨rfl, rfl⟩ <;> simp (discharger := omega) only [f_law_C2025, f_L_packed, f_X10_thrown, nI_add, mt_mul, nI_clamp, nI_leI, nI_ltI, nI_eq, mt_in_t, mt_b1, mt_b2, mt_b3, mt_b4, mt_l, mt_g, ↓reduceIte, Nat.reduceEqDiff, Nat.reduceLeDiff, ml_0, ml_1, ml_2, ml_3, ml_4, ml_5, ml_6, ml_7, ml_8, ml_9, ml_10, ml_11, ml_12, ml_13, ml_14, ml_16, ml_31, ml_32, ml_40, ml_42, ml_48, ml_50, ml_57, ml_59, ml_60, ml_63, ml_98, ml_100, ml_103, ml_104, ml_105, ml_106, ml_107, ml_108, ml_109, ml_110, ml_111, ml_112, ml_113, ml_114, ml_115, ml_120, ml_127, ml_176, ml_180, ml_200, ml_254, ml_255, ml_256, ml_300, ml_728, ml_832, ml_65536, e1, e2', e3, mt_cmp, hk]
theorem lw_2080 (hR : mt_R B μ) (hL : L ≤ 2560) (hi : i + 5 ≤ L) (hB : B < 100000) (hK : ∀ μ' o' d', mt_R (B + 12) μ' → K μ' o' d' (nI (i + 5)) = some ()) : f_law_C2080 K xs L μ o d (nI i) = some () := by
  obtain ⟨r, μ2, e1, e2, R2⟩ := pc_runCount hR
  have hk := fun o' d' => hK μ2 o' d' (mt_R_m R2 (by omega))
  simp (discharger := omega) only [f_law_C2080, nI_add, mt_mul, nI_clamp, nI_leI, nI_ltI, nI_eq, mt_in_t, mt_b1, mt_b2, mt_b3, mt_b4, mt_l, mt_g, ↓reduceIte, Nat.reduceEqDiff, Nat.reduceLeDiff, ml_0, ml_1, ml_2, ml_3, ml_4, ml_5, ml_6, ml_7, ml_8, ml_9, ml_10, ml_11, ml_12, ml_13, ml_14, ml_16, ml_31, ml_32, ml_40, ml_42, ml_48, ml_50, ml_57, ml_59, ml_60, ml_63, ml_98, ml_100, ml_103, ml_104, ml_105, ml_106, ml_107, ml_108, ml_109, ml_110, ml_111, ml_112, ml_113, ml_114, ml_115, ml_120, ml_127, ml_176, ml_180, ml_200, ml_254, ml_255, ml_256, ml_300, ml_728, ml_832, ml_65536, e1, e2, hk]
theorem lw_2093 (hR : mt_R B μ) (hL : L ≤ 2560) (hi : i + 5 ≤ L) (hB : B < 100000) (hK : ∀ μ' o' d', mt_R (B + 12) μ' → K μ' o' d' (nI (i + 5)) = some ()) : f_law_C2093 K xs L μ o d (nI i) = some () := by
  obtain ⟨μ1, r, k, μ2, r2, t, e1, e2, e3, R2, hcc⟩ := pc_dirtiest hR (xs (i + 1))
  have e2' : f_X10_dirtiest μ1 (xs (i + 1)) = some (μ2, r2) := e2
  have hk := fun o' d' => hK μ2 o' d' (mt_R_m R2 (by omega))
  rcases hcc with ⟨rfl, rfl, rfl⟩ | hcc
  · simp (discharger := omega) only [f_law_C2093, f_L_dirtiest, f_X10_thrown, nI_add, mt_mul, nI_clamp, nI_leI, nI_ltI, nI_eq, mt_in_t, mt_b1, mt_b2, mt_b3, mt_b4, mt_l, mt_g, ↓reduceIte, Nat.reduceEqDiff, Nat.reduceLeDiff, ml_0, ml_1, ml_2, ml_3, ml_4, ml_5, ml_6, ml_7, ml_8, ml_9, ml_10, ml_11, ml_12, ml_13, ml_14, ml_16, ml_31, ml_32, ml_40, ml_42, ml_48, ml_50, ml_57, ml_59, ml_60, ml_63, ml_98, ml_100, ml_103, ml_104, ml_105, ml_106, ml_107, ml_108, ml_109, ml_110, ml_111, ml_112, ml_113, ml_114, ml_115, ml_120, ml_127, ml_176, ml_180, ml_200, ml_254, ml_255, ml_256, ml_300, ml_728, ml_832, ml_65536, e1, e2', e3, mt_cmp, hk]
  · rcases hcc with ⟨rfl, rfl⟩ <;> simp (discharger := omega) only [f_law_C2093, f_L_dirtiest, f_X10_thrown, nI_add, mt_mul, nI_clamp, nI_leI, nI_ltI, nI_eq, mt_in_t, mt_b1, mt_b2, mt_b3, mt_b4, mt_l, mt_g, ↓reduceIte, Nat.reduceEqDiff, Nat.reduceLeDiff, ml_0, ml_1, ml_2, ml_3, ml_4, ml_5, ml_6, ml_7, ml_8, ml_9, ml_10, ml_11, ml_12, ml_13, ml_14, ml_16, ml_31, ml_32, ml_40, ml_42, ml_48, ml_50, ml_57, ml_59, ml_60, ml_63, ml_98, ml_100, ml_103, ml_104, ml_105, ml_106, ml_107, ml_108, ml_109, ml_110, ml_111, ml_112, ml_113, ml_114, ml_115, ml_120, ml_127, ml_176, ml_180, ml_200, ml_254, ml_255, ml_256, ml_300, ml_728, ml_832, ml_65536, e1, e2', e3, mt_cmp, hk]
theorem lw_2149 (hR : mt_R B μ) (hL : L ≤ 2560) (hi : i + 5 ≤ L) (hB : B < 100000) (hK : ∀ μ' o' d', mt_R (B + 12) μ' → K μ' o' d' (nI (i + 5)) = some ()) : f_law_C2149 K xs L μ o d (nI i) = some () := by
  obtain ⟨μ1, r, k, μ2, r2, t, e1, e2, e3, R2, hcc⟩ := pc_spender hR (xs (i + 1))
  have e2' : f_X10_spender μ1 (xs (i + 1)) = some (μ2, r2) := e2
  have hk := fun o' d' => hK μ2 o' d' (mt_R_m R2 (by omega))
  rcases hcc with ⟨rfl, rfl, rfl⟩ | hcc
  · simp (discharger := omega) only [f_law_C2149, f_L_spender, f_X10_thrown, nI_add, mt_mul, nI_clamp, nI_leI, nI_ltI, nI_eq, mt_in_t, mt_b1, mt_b2, mt_b3, mt_b4, mt_l, mt_g, ↓reduceIte, Nat.reduceEqDiff, Nat.reduceLeDiff, ml_0, ml_1, ml_2, ml_3, ml_4, ml_5, ml_6, ml_7, ml_8, ml_9, ml_10, ml_11, ml_12, ml_13, ml_14, ml_16, ml_31, ml_32, ml_40, ml_42, ml_48, ml_50, ml_57, ml_59, ml_60, ml_63, ml_98, ml_100, ml_103, ml_104, ml_105, ml_106, ml_107, ml_108, ml_109, ml_110, ml_111, ml_112, ml_113, ml_114, ml_115, ml_120, ml_127, ml_176, ml_180, ml_200, ml_254, ml_255, ml_256, ml_300, ml_728, ml_832, ml_65536, e1, e2', e3, mt_cmp, hk]
  · rcases hcc with ⟨rfl, rfl⟩ <;> simp (discharger := omega) only [f_law_C2149, f_L_spender, f_X10_thrown, nI_add, mt_mul, nI_clamp, nI_leI, nI_ltI, nI_eq, mt_in_t, mt_b1, mt_b2, mt_b3, mt_b4, mt_l, mt_g, ↓reduceIte, Nat.reduceEqDiff, Nat.reduceLeDiff, ml_0, ml_1, ml_2, ml_3, ml_4, ml_5, ml_6, ml_7, ml_8, ml_9, ml_10, ml_11, ml_12, ml_13, ml_14, ml_16, ml_31, ml_32, ml_40, ml_42, ml_48, ml_50, ml_57, ml_59, ml_60, ml_63, ml_98, ml_100, ml_103, ml_104, ml_105, ml_106, ml_107, ml_108, ml_109, ml_110, ml_111, ml_112, ml_113, ml_114, ml_115, ml_120, ml_127, ml_176, ml_180, ml_200, ml_254, ml_255, ml_256, ml_300, ml_728, ml_832, ml_65536, e1, e2', e3, mt_cmp, hk]
theorem lw_2205 (hR : mt_R B μ) (hL : L ≤ 2560) (hi : i + 5 ≤ L) (hB : B < 100000) (hK : ∀ μ' o' d', mt_R (B + 12) μ' → K μ' o' d' (nI (i + 5)) = some ()) : f_law_C2205 K xs L μ o d (nI i) = some () := by
  obtain ⟨μ1, r, k, μ2, r2, t, e1, e2, e3, R2, hcc⟩ := pc_meanStains hR
  have e2' : f_X10_meanStains μ1 = some (μ2, r2) := e2
  have hk := fun o' d' => hK μ2 o' d' (mt_R_m R2 (by omega))
  rcases hcc with ⟨rfl, rfl, rfl, w2⟩ | hcc
  · simp (discharger := omega) only [f_law_C2205, f_L_meanStains, f_X10_thrown, nI_add, mt_mul, nI_clamp, nI_leI, nI_ltI, nI_eq, mt_in_t, mt_b1, mt_b2, mt_b3, mt_b4, mt_l, mt_g, ↓reduceIte, Nat.reduceEqDiff, Nat.reduceLeDiff, ml_0, ml_1, ml_2, ml_3, ml_4, ml_5, ml_6, ml_7, ml_8, ml_9, ml_10, ml_11, ml_12, ml_13, ml_14, ml_16, ml_31, ml_32, ml_40, ml_42, ml_48, ml_50, ml_57, ml_59, ml_60, ml_63, ml_98, ml_100, ml_103, ml_104, ml_105, ml_106, ml_107, ml_108, ml_109, ml_110, ml_111, ml_112, ml_113, ml_114, ml_115, ml_120, ml_127, ml_176, ml_180, ml_200, ml_254, ml_255, ml_256, ml_300, ml_728, ml_832, ml_65536, e1, e2', e3, mt_cmp, hk, w2]
  · rcases hcc with ⟨rfl, rfl⟩ <;> simp (discharger := omega) only [f_law_C2205, f_L_meanStains, f_X10_thrown, nI_add, mt_mul, nI_clamp, nI_leI, nI_ltI, nI_eq, mt_in_t, mt_b1, mt_b2, mt_b3, mt_b4, mt_l, mt_g, ↓reduceIte, Nat.reduceEqDiff, Nat.reduceLeDiff, ml_0, ml_1, ml_2, ml_3, ml_4, ml_5, ml_6, ml_7, ml_8, ml_9, ml_10, ml_11, ml_12, ml_13, ml_14, ml_16, ml_31, ml_32, ml_40, ml_42, ml_48, ml_50, ml_57, ml_59, ml_60, ml_63, ml_98, ml_100, ml_103, ml_104, ml_105, ml_106, ml_107, ml_108, ml_109, ml_110, ml_111, ml_112, ml_113, ml_114, ml_115, ml_120, ml_127, ml_176, ml_180, ml_200, ml_254, ml_255, ml_256, ml_300, ml_728, ml_832, ml_65536, e1, e2', e3, mt_cmp, hk]
theorem lw_2270 (hR : mt_R B μ) (hL : L ≤ 2560) (hi : i + 5 ≤ L) (hB : B < 100000) (hK : ∀ μ' o' d', mt_R (B + 12) μ' → K μ' o' d' (nI (i + 5)) = some ()) : f_law_C2270 K xs L μ o d (nI i) = some () := by
  obtain ⟨μ1, r, k, μ2, r2, t, e1, e2, e3, R2, hcc⟩ := pc_lostShare hR
  have e2' : f_X10_lostShare μ1 = some (μ2, r2) := e2
  have hk := fun o' d' => hK μ2 o' d' (mt_R_m R2 (by omega))
  rcases hcc with ⟨rfl, rfl, rfl, w1, w2⟩ | hcc
  · simp (discharger := omega) only [f_law_C2270, f_L_lostShare, f_X10_thrown, nI_add, mt_mul, nI_clamp, nI_leI, nI_ltI, nI_eq, mt_in_t, mt_b1, mt_b2, mt_b3, mt_b4, mt_l, mt_g, ↓reduceIte, Nat.reduceEqDiff, Nat.reduceLeDiff, ml_0, ml_1, ml_2, ml_3, ml_4, ml_5, ml_6, ml_7, ml_8, ml_9, ml_10, ml_11, ml_12, ml_13, ml_14, ml_16, ml_31, ml_32, ml_40, ml_42, ml_48, ml_50, ml_57, ml_59, ml_60, ml_63, ml_98, ml_100, ml_103, ml_104, ml_105, ml_106, ml_107, ml_108, ml_109, ml_110, ml_111, ml_112, ml_113, ml_114, ml_115, ml_120, ml_127, ml_176, ml_180, ml_200, ml_254, ml_255, ml_256, ml_300, ml_728, ml_832, ml_65536, e1, e2', e3, mt_cmp, hk, w1, w2]
  · rcases hcc with ⟨rfl, rfl⟩ <;> simp (discharger := omega) only [f_law_C2270, f_L_lostShare, f_X10_thrown, nI_add, mt_mul, nI_clamp, nI_leI, nI_ltI, nI_eq, mt_in_t, mt_b1, mt_b2, mt_b3, mt_b4, mt_l, mt_g, ↓reduceIte, Nat.reduceEqDiff, Nat.reduceLeDiff, ml_0, ml_1, ml_2, ml_3, ml_4, ml_5, ml_6, ml_7, ml_8, ml_9, ml_10, ml_11, ml_12, ml_13, ml_14, ml_16, ml_31, ml_32, ml_40, ml_42, ml_48, ml_50, ml_57, ml_59, ml_60, ml_63, ml_98, ml_100, ml_103, ml_104, ml_105, ml_106, ml_107, ml_108, ml_109, ml_110, ml_111, ml_112, ml_113, ml_114, ml_115, ml_120, ml_127, ml_176, ml_180, ml_200, ml_254, ml_255, ml_256, ml_300, ml_728, ml_832, ml_65536, e1, e2', e3, mt_cmp, hk]
theorem lw_2336 (hR : mt_R B μ) (hL : L ≤ 2560) (hi : i + 5 ≤ L) (hB : B < 100000) (hK : ∀ μ' o' d', mt_R (B + 12) μ' → K μ' o' d' (nI (i + 5)) = some ()) : f_law_C2336 K xs L μ o d (nI i) = some () := by
  obtain ⟨a, e1, e2, R2⟩ := pc_isConsistent hR
  have hk := fun o' d' => hK _ o' d' (mt_R_m R2 (by omega))
  simp (discharger := omega) only [f_law_C2336, nI_add, mt_mul, nI_clamp, nI_leI, nI_ltI, nI_eq, mt_in_t, mt_b1, mt_b2, mt_b3, mt_b4, mt_l, mt_g, ↓reduceIte, Nat.reduceEqDiff, Nat.reduceLeDiff, ml_0, ml_1, ml_2, ml_3, ml_4, ml_5, ml_6, ml_7, ml_8, ml_9, ml_10, ml_11, ml_12, ml_13, ml_14, ml_16, ml_31, ml_32, ml_40, ml_42, ml_48, ml_50, ml_57, ml_59, ml_60, ml_63, ml_98, ml_100, ml_103, ml_104, ml_105, ml_106, ml_107, ml_108, ml_109, ml_110, ml_111, ml_112, ml_113, ml_114, ml_115, ml_120, ml_127, ml_176, ml_180, ml_200, ml_254, ml_255, ml_256, ml_300, ml_728, ml_832, ml_65536, e1, e2, hk]
theorem lw_2349 (hR : mt_R B μ) (hL : L ≤ 2560) (hi : i + 5 ≤ L) (hB : B < 100000) (hK : ∀ μ' o' d', mt_R (B + 12) μ' → K μ' o' d' (nI (i + 5)) = some ()) : f_law_C2349 K xs L μ o d (nI i) = some () := by
  obtain ⟨c, hc, ec⟩ := mt_chx (xs (i + 1))
  obtain ⟨μ1, r, k, μ2, r2, t, e1, e2, e3, R2, hcc⟩ := pc_feed hR hc
  have e2' : f_X10_feed μ1 (nI c) = some (μ2, r2) := e2
  have hk := fun o' d' => hK μ2 o' d' (mt_R_m R2 (by omega))
  rcases hcc with ⟨rfl, rfl, rfl⟩ | hcc
  · simp (discharger := omega) only [f_law_C2349, f_L_feed, f_X10_thrown, nI_add, mt_mul, nI_clamp, nI_leI, nI_ltI, nI_eq, mt_in_t, mt_b1, mt_b2, mt_b3, mt_b4, mt_l, mt_g, ↓reduceIte, Nat.reduceEqDiff, Nat.reduceLeDiff, ml_0, ml_1, ml_2, ml_3, ml_4, ml_5, ml_6, ml_7, ml_8, ml_9, ml_10, ml_11, ml_12, ml_13, ml_14, ml_16, ml_31, ml_32, ml_40, ml_42, ml_48, ml_50, ml_57, ml_59, ml_60, ml_63, ml_98, ml_100, ml_103, ml_104, ml_105, ml_106, ml_107, ml_108, ml_109, ml_110, ml_111, ml_112, ml_113, ml_114, ml_115, ml_120, ml_127, ml_176, ml_180, ml_200, ml_254, ml_255, ml_256, ml_300, ml_728, ml_832, ml_65536, e1, e2', e3, mt_cmp, hk, ec]
  · rcases hcc with ⟨rfl, rfl⟩ <;> simp (discharger := omega) only [f_law_C2349, f_L_feed, f_X10_thrown, nI_add, mt_mul, nI_clamp, nI_leI, nI_ltI, nI_eq, mt_in_t, mt_b1, mt_b2, mt_b3, mt_b4, mt_l, mt_g, ↓reduceIte, Nat.reduceEqDiff, Nat.reduceLeDiff, ml_0, ml_1, ml_2, ml_3, ml_4, ml_5, ml_6, ml_7, ml_8, ml_9, ml_10, ml_11, ml_12, ml_13, ml_14, ml_16, ml_31, ml_32, ml_40, ml_42, ml_48, ml_50, ml_57, ml_59, ml_60, ml_63, ml_98, ml_100, ml_103, ml_104, ml_105, ml_106, ml_107, ml_108, ml_109, ml_110, ml_111, ml_112, ml_113, ml_114, ml_115, ml_120, ml_127, ml_176, ml_180, ml_200, ml_254, ml_255, ml_256, ml_300, ml_728, ml_832, ml_65536, e1, e2', e3, mt_cmp, hk, ec]
theorem lw_2407 (hR : mt_R B μ) (hL : L ≤ 2560) (hi : i + 5 ≤ L) (hB : B < 100000) (hK : ∀ μ' o' d', mt_R (B + 12) μ' → K μ' o' d' (nI (i + 5)) = some ()) : f_law_C2407 K xs L μ o d (nI i) = some () := by
  obtain ⟨μ1, r, k, μ2, r2, t, e1, e2, e3, R2, hcc⟩ := pc_runCommands hR hB
  have e2' : f_X10_runCommands μ1 = some (μ2, r2) := e2
  have hk := fun o' d' => hK μ2 o' d' (mt_R_m R2 (by omega))
  rcases hcc with ⟨rfl, rfl, rfl⟩ | hcc
  · simp (discharger := omega) only [f_law_C2407, f_L_runCommands, f_X10_thrown, nI_add, mt_mul, nI_clamp, nI_leI, nI_ltI, nI_eq, mt_in_t, mt_b1, mt_b2, mt_b3, mt_b4, mt_l, mt_g, ↓reduceIte, Nat.reduceEqDiff, Nat.reduceLeDiff, ml_0, ml_1, ml_2, ml_3, ml_4, ml_5, ml_6, ml_7, ml_8, ml_9, ml_10, ml_11, ml_12, ml_13, ml_14, ml_16, ml_31, ml_32, ml_40, ml_42, ml_48, ml_50, ml_57, ml_59, ml_60, ml_63, ml_98, ml_100, ml_103, ml_104, ml_105, ml_106, ml_107, ml_108, ml_109, ml_110, ml_111, ml_112, ml_113, ml_114, ml_115, ml_120, ml_127, ml_176, ml_180, ml_200, ml_254, ml_255, ml_256, ml_300, ml_728, ml_832, ml_65536, e1, e2', e3, mt_cmp, hk]
  · rcases hcc with ⟨rfl, rfl⟩ | ⟨rfl, rfl⟩ <;> simp (discharger := omega) only [f_law_C2407, f_L_runCommands, f_X10_thrown, nI_add, mt_mul, nI_clamp, nI_leI, nI_ltI, nI_eq, mt_in_t, mt_b1, mt_b2, mt_b3, mt_b4, mt_l, mt_g, ↓reduceIte, Nat.reduceEqDiff, Nat.reduceLeDiff, ml_0, ml_1, ml_2, ml_3, ml_4, ml_5, ml_6, ml_7, ml_8, ml_9, ml_10, ml_11, ml_12, ml_13, ml_14, ml_16, ml_31, ml_32, ml_40, ml_42, ml_48, ml_50, ml_57, ml_59, ml_60, ml_63, ml_98, ml_100, ml_103, ml_104, ml_105, ml_106, ml_107, ml_108, ml_109, ml_110, ml_111, ml_112, ml_113, ml_114, ml_115, ml_120, ml_127, ml_176, ml_180, ml_200, ml_254, ml_255, ml_256, ml_300, ml_728, ml_832, ml_65536, e1, e2', e3, mt_cmp, hk]
theorem lw_2451 (hR : mt_R B μ) (hL : L ≤ 2560) (hi : i + 5 ≤ L) (hB : B < 100000) (hK : ∀ μ' o' d', mt_R (B + 12) μ' → K μ' o' d' (nI (i + 5)) = some ()) : f_law_C2451 K xs L μ o d (nI i) = some () := by
  obtain ⟨μ1, r, k, μ2, r2, t, e1, e2, e3, R2, hcc⟩ := pc_errorPosition hR
  have e2' : f_X10_errorPosition μ1 = some (μ2, r2) := e2
  have hk := fun o' d' => hK μ2 o' d' (mt_R_m R2 (by omega))
  rcases hcc with ⟨rfl, rfl, rfl⟩ | hcc
  · simp (discharger := omega) only [f_law_C2451, f_L_errorPosition, f_X10_thrown, nI_add, mt_mul, nI_clamp, nI_leI, nI_ltI, nI_eq, mt_in_t, mt_b1, mt_b2, mt_b3, mt_b4, mt_l, mt_g, ↓reduceIte, Nat.reduceEqDiff, Nat.reduceLeDiff, ml_0, ml_1, ml_2, ml_3, ml_4, ml_5, ml_6, ml_7, ml_8, ml_9, ml_10, ml_11, ml_12, ml_13, ml_14, ml_16, ml_31, ml_32, ml_40, ml_42, ml_48, ml_50, ml_57, ml_59, ml_60, ml_63, ml_98, ml_100, ml_103, ml_104, ml_105, ml_106, ml_107, ml_108, ml_109, ml_110, ml_111, ml_112, ml_113, ml_114, ml_115, ml_120, ml_127, ml_176, ml_180, ml_200, ml_254, ml_255, ml_256, ml_300, ml_728, ml_832, ml_65536, e1, e2', e3, mt_cmp, hk]
  · rcases hcc with ⟨rfl, rfl⟩ <;> simp (discharger := omega) only [f_law_C2451, f_L_errorPosition, f_X10_thrown, nI_add, mt_mul, nI_clamp, nI_leI, nI_ltI, nI_eq, mt_in_t, mt_b1, mt_b2, mt_b3, mt_b4, mt_l, mt_g, ↓reduceIte, Nat.reduceEqDiff, Nat.reduceLeDiff, ml_0, ml_1, ml_2, ml_3, ml_4, ml_5, ml_6, ml_7, ml_8, ml_9, ml_10, ml_11, ml_12, ml_13, ml_14, ml_16, ml_31, ml_32, ml_40, ml_42, ml_48, ml_50, ml_57, ml_59, ml_60, ml_63, ml_98, ml_100, ml_103, ml_104, ml_105, ml_106, ml_107, ml_108, ml_109, ml_110, ml_111, ml_112, ml_113, ml_114, ml_115, ml_120, ml_127, ml_176, ml_180, ml_200, ml_254, ml_255, ml_256, ml_300, ml_728, ml_832, ml_65536, e1, e2', e3, mt_cmp, hk]
theorem lw_2495 (hR : mt_R B μ) (hL : L ≤ 2560) (hi : i + 5 ≤ L) (hB : B < 100000) (hK : ∀ μ' o' d', mt_R (B + 12) μ' → K μ' o' d' (nI (i + 5)) = some ()) : f_law_C2495 K xs L μ o d (nI i) = some () := by
  obtain ⟨μ1, r, k, μ2, r2, t, e1, e2, e3, R2, hcc⟩ := pc_failedCommand hR
  have e2' : f_X10_failedCommand μ1 = some (μ2, r2) := e2
  have hk := fun o' d' => hK μ2 o' d' (mt_R_m R2 (by omega))
  rcases hcc with ⟨rfl, rfl, rfl⟩ | hcc
  · simp (discharger := omega) only [f_law_C2495, f_L_failedCommand, f_X10_thrown, nI_add, mt_mul, nI_clamp, nI_leI, nI_ltI, nI_eq, mt_in_t, mt_b1, mt_b2, mt_b3, mt_b4, mt_l, mt_g, ↓reduceIte, Nat.reduceEqDiff, Nat.reduceLeDiff, ml_0, ml_1, ml_2, ml_3, ml_4, ml_5, ml_6, ml_7, ml_8, ml_9, ml_10, ml_11, ml_12, ml_13, ml_14, ml_16, ml_31, ml_32, ml_40, ml_42, ml_48, ml_50, ml_57, ml_59, ml_60, ml_63, ml_98, ml_100, ml_103, ml_104, ml_105, ml_106, ml_107, ml_108, ml_109, ml_110, ml_111, ml_112, ml_113, ml_114, ml_115, ml_120, ml_127, ml_176, ml_180, ml_200, ml_254, ml_255, ml_256, ml_300, ml_728, ml_832, ml_65536, e1, e2', e3, mt_cmp, hk]
  · rcases hcc with ⟨rfl, rfl⟩ <;> simp (discharger := omega) only [f_law_C2495, f_L_failedCommand, f_X10_thrown, nI_add, mt_mul, nI_clamp, nI_leI, nI_ltI, nI_eq, mt_in_t, mt_b1, mt_b2, mt_b3, mt_b4, mt_l, mt_g, ↓reduceIte, Nat.reduceEqDiff, Nat.reduceLeDiff, ml_0, ml_1, ml_2, ml_3, ml_4, ml_5, ml_6, ml_7, ml_8, ml_9, ml_10, ml_11, ml_12, ml_13, ml_14, ml_16, ml_31, ml_32, ml_40, ml_42, ml_48, ml_50, ml_57, ml_59, ml_60, ml_63, ml_98, ml_100, ml_103, ml_104, ml_105, ml_106, ml_107, ml_108, ml_109, ml_110, ml_111, ml_112, ml_113, ml_114, ml_115, ml_120, ml_127, ml_176, ml_180, ml_200, ml_254, ml_255, ml_256, ml_300, ml_728, ml_832, ml_65536, e1, e2', e3, mt_cmp, hk]
theorem lw_2539 (hR : mt_R B μ) (hL : L ≤ 2560) (hi : i + 5 ≤ L) (hB : B < 100000) (hK : ∀ μ' o' d', mt_R (B + 12) μ' → K μ' o' d' (nI (i + 5)) = some ()) : f_law_C2539 K xs L μ o d (nI i) = some () := by
  obtain ⟨μ1, r, k, μ2, r2, t, e1, e2, e3, R2, hcc⟩ := pc_writeBag hR (xs (i + 1))
  have e2' : f_X10_writeBag μ1 (xs (i + 1)) = some (μ2, r2) := e2
  have hk := fun o' d' => hK μ2 o' d' (mt_R_m R2 (by omega))
  rcases hcc with ⟨rfl, rfl, rfl⟩ | hcc
  · simp (discharger := omega) only [f_law_C2539, f_L_writeBag, f_X10_thrown, nI_add, mt_mul, nI_clamp, nI_leI, nI_ltI, nI_eq, mt_in_t, mt_b1, mt_b2, mt_b3, mt_b4, mt_l, mt_g, ↓reduceIte, Nat.reduceEqDiff, Nat.reduceLeDiff, ml_0, ml_1, ml_2, ml_3, ml_4, ml_5, ml_6, ml_7, ml_8, ml_9, ml_10, ml_11, ml_12, ml_13, ml_14, ml_16, ml_31, ml_32, ml_40, ml_42, ml_48, ml_50, ml_57, ml_59, ml_60, ml_63, ml_98, ml_100, ml_103, ml_104, ml_105, ml_106, ml_107, ml_108, ml_109, ml_110, ml_111, ml_112, ml_113, ml_114, ml_115, ml_120, ml_127, ml_176, ml_180, ml_200, ml_254, ml_255, ml_256, ml_300, ml_728, ml_832, ml_65536, e1, e2', e3, mt_cmp, hk]
  · rcases hcc with ⟨rfl, rfl⟩ <;> simp (discharger := omega) only [f_law_C2539, f_L_writeBag, f_X10_thrown, nI_add, mt_mul, nI_clamp, nI_leI, nI_ltI, nI_eq, mt_in_t, mt_b1, mt_b2, mt_b3, mt_b4, mt_l, mt_g, ↓reduceIte, Nat.reduceEqDiff, Nat.reduceLeDiff, ml_0, ml_1, ml_2, ml_3, ml_4, ml_5, ml_6, ml_7, ml_8, ml_9, ml_10, ml_11, ml_12, ml_13, ml_14, ml_16, ml_31, ml_32, ml_40, ml_42, ml_48, ml_50, ml_57, ml_59, ml_60, ml_63, ml_98, ml_100, ml_103, ml_104, ml_105, ml_106, ml_107, ml_108, ml_109, ml_110, ml_111, ml_112, ml_113, ml_114, ml_115, ml_120, ml_127, ml_176, ml_180, ml_200, ml_254, ml_255, ml_256, ml_300, ml_728, ml_832, ml_65536, e1, e2', e3, mt_cmp, hk]
theorem lw_2595 (hR : mt_R B μ) (hL : L ≤ 2560) (hi : i + 5 ≤ L) (hB : B < 100000) (hK : ∀ μ' o' d', mt_R (B + 12) μ' → K μ' o' d' (nI (i + 5)) = some ()) : f_law_C2595 K xs L μ o d (nI i) = some () := by
  obtain ⟨μ1, r, k, μ2, r2, t, e1, e2, e3, R2, hcc⟩ := pc_outputChar hR (xs (i + 1))
  have e2' : f_X10_outputChar μ1 (xs (i + 1)) = some (μ2, r2) := e2
  have hk := fun o' d' => hK μ2 o' d' (mt_R_m R2 (by omega))
  rcases hcc with ⟨rfl, rfl, rfl⟩ | hcc
  · simp (discharger := omega) only [f_law_C2595, f_L_outputChar, f_X10_thrown, nI_add, mt_mul, nI_clamp, nI_leI, nI_ltI, nI_eq, mt_in_t, mt_b1, mt_b2, mt_b3, mt_b4, mt_l, mt_g, ↓reduceIte, Nat.reduceEqDiff, Nat.reduceLeDiff, ml_0, ml_1, ml_2, ml_3, ml_4, ml_5, ml_6, ml_7, ml_8, ml_9, ml_10, ml_11, ml_12, ml_13, ml_14, ml_16, ml_31, ml_32, ml_40, ml_42, ml_48, ml_50, ml_57, ml_59, ml_60, ml_63, ml_98, ml_100, ml_103, ml_104, ml_105, ml_106, ml_107, ml_108, ml_109, ml_110, ml_111, ml_112, ml_113, ml_114, ml_115, ml_120, ml_127, ml_176, ml_180, ml_200, ml_254, ml_255, ml_256, ml_300, ml_728, ml_832, ml_65536, e1, e2', e3, mt_cmp, hk]
  · rcases hcc with ⟨rfl, rfl⟩ <;> simp (discharger := omega) only [f_law_C2595, f_L_outputChar, f_X10_thrown, nI_add, mt_mul, nI_clamp, nI_leI, nI_ltI, nI_eq, mt_in_t, mt_b1, mt_b2, mt_b3, mt_b4, mt_l, mt_g, ↓reduceIte, Nat.reduceEqDiff, Nat.reduceLeDiff, ml_0, ml_1, ml_2, ml_3, ml_4, ml_5, ml_6, ml_7, ml_8, ml_9, ml_10, ml_11, ml_12, ml_13, ml_14, ml_16, ml_31, ml_32, ml_40, ml_42, ml_48, ml_50, ml_57, ml_59, ml_60, ml_63, ml_98, ml_100, ml_103, ml_104, ml_105, ml_106, ml_107, ml_108, ml_109, ml_110, ml_111, ml_112, ml_113, ml_114, ml_115, ml_120, ml_127, ml_176, ml_180, ml_200, ml_254, ml_255, ml_256, ml_300, ml_728, ml_832, ml_65536, e1, e2', e3, mt_cmp, hk]
theorem lw_2651 (hR : mt_R B μ) (hL : L ≤ 2560) (hi : i + 5 ≤ L) (hB : B < 100000) (hK : ∀ μ' o' d', mt_R (B + 12) μ' → K μ' o' d' (nI (i + 5)) = some ()) : f_law_C2651 K xs L μ o d (nI i) = some () := by
  obtain ⟨r, μ2, e1, e2, R2⟩ := pc_undoCount hR
  have hk := fun o' d' => hK μ2 o' d' (mt_R_m R2 (by omega))
  simp (discharger := omega) only [f_law_C2651, nI_add, mt_mul, nI_clamp, nI_leI, nI_ltI, nI_eq, mt_in_t, mt_b1, mt_b2, mt_b3, mt_b4, mt_l, mt_g, ↓reduceIte, Nat.reduceEqDiff, Nat.reduceLeDiff, ml_0, ml_1, ml_2, ml_3, ml_4, ml_5, ml_6, ml_7, ml_8, ml_9, ml_10, ml_11, ml_12, ml_13, ml_14, ml_16, ml_31, ml_32, ml_40, ml_42, ml_48, ml_50, ml_57, ml_59, ml_60, ml_63, ml_98, ml_100, ml_103, ml_104, ml_105, ml_106, ml_107, ml_108, ml_109, ml_110, ml_111, ml_112, ml_113, ml_114, ml_115, ml_120, ml_127, ml_176, ml_180, ml_200, ml_254, ml_255, ml_256, ml_300, ml_728, ml_832, ml_65536, e1, e2, hk]
theorem lw_2664 (hR : mt_R B μ) (hL : L ≤ 2560) (hi : i + 5 ≤ L) (hB : B < 100000) (hK : ∀ μ' o' d', mt_R (B + 12) μ' → K μ' o' d' (nI (i + 5)) = some ()) : f_law_C2664 K xs L μ o d (nI i) = some () := by
  obtain ⟨μ1, r, k, μ2, r2, t, e1, e2, e3, R2, hcc⟩ := pc_undo hR
  have e2' : f_X10_undo μ1 = some (μ2, r2) := e2
  have hk := fun o' d' => hK μ2 o' d' (mt_R_m R2 (by omega))
  rcases hcc with ⟨rfl, rfl, rfl⟩ | hcc
  · simp (discharger := omega) only [f_law_C2664, f_L_undo, f_X10_thrown, nI_add, mt_mul, nI_clamp, nI_leI, nI_ltI, nI_eq, mt_in_t, mt_b1, mt_b2, mt_b3, mt_b4, mt_l, mt_g, ↓reduceIte, Nat.reduceEqDiff, Nat.reduceLeDiff, ml_0, ml_1, ml_2, ml_3, ml_4, ml_5, ml_6, ml_7, ml_8, ml_9, ml_10, ml_11, ml_12, ml_13, ml_14, ml_16, ml_31, ml_32, ml_40, ml_42, ml_48, ml_50, ml_57, ml_59, ml_60, ml_63, ml_98, ml_100, ml_103, ml_104, ml_105, ml_106, ml_107, ml_108, ml_109, ml_110, ml_111, ml_112, ml_113, ml_114, ml_115, ml_120, ml_127, ml_176, ml_180, ml_200, ml_254, ml_255, ml_256, ml_300, ml_728, ml_832, ml_65536, e1, e2', e3, mt_cmp, hk]
  · rcases hcc with ⟨rfl, rfl⟩ <;> simp (discharger := omega) only [f_law_C2664, f_L_undo, f_X10_thrown, nI_add, mt_mul, nI_clamp, nI_leI, nI_ltI, nI_eq, mt_in_t, mt_b1, mt_b2, mt_b3, mt_b4, mt_l, mt_g, ↓reduceIte, Nat.reduceEqDiff, Nat.reduceLeDiff, ml_0, ml_1, ml_2, ml_3, ml_4, ml_5, ml_6, ml_7, ml_8, ml_9, ml_10, ml_11, ml_12, ml_13, ml_14, ml_16, ml_31, ml_32, ml_40, ml_42, ml_48, ml_50, ml_57, ml_59, ml_60, ml_63, ml_98, ml_100, ml_103, ml_104, ml_105, ml_106, ml_107, ml_108, ml_109, ml_110, ml_111, ml_112, ml_113, ml_114, ml_115, ml_120, ml_127, ml_176, ml_180, ml_200, ml_254, ml_255, ml_256, ml_300, ml_728, ml_832, ml_65536, e1, e2', e3, mt_cmp, hk]
theorem lw_2708 (hR : mt_R B μ) (hL : L ≤ 2560) (hi : i + 5 ≤ L) (hB : B < 100000) (hK : ∀ μ' o' d', mt_R (B + 12) μ' → K μ' o' d' (nI (i + 5)) = some ()) : f_law_C2708 K xs L μ o d (nI i) = some () := by
  obtain ⟨a, μ2, r, e1, e2, R2⟩ := pc_save hR
  have hk := fun o' d' => hK _ o' d' (mt_R_m R2 (by omega))
  simp (discharger := omega) only [f_law_C2708, nI_add, mt_mul, nI_clamp, nI_leI, nI_ltI, nI_eq, mt_in_t, mt_b1, mt_b2, mt_b3, mt_b4, mt_l, mt_g, ↓reduceIte, Nat.reduceEqDiff, Nat.reduceLeDiff, ml_0, ml_1, ml_2, ml_3, ml_4, ml_5, ml_6, ml_7, ml_8, ml_9, ml_10, ml_11, ml_12, ml_13, ml_14, ml_16, ml_31, ml_32, ml_40, ml_42, ml_48, ml_50, ml_57, ml_59, ml_60, ml_63, ml_98, ml_100, ml_103, ml_104, ml_105, ml_106, ml_107, ml_108, ml_109, ml_110, ml_111, ml_112, ml_113, ml_114, ml_115, ml_120, ml_127, ml_176, ml_180, ml_200, ml_254, ml_255, ml_256, ml_300, ml_728, ml_832, ml_65536, e1, e2, hk]
theorem lw_2721 (hR : mt_R B μ) (hL : L ≤ 2560) (hi : i + 5 ≤ L) (hB : B < 100000) (hK : ∀ μ' o' d', mt_R (B + 12) μ' → K μ' o' d' (nI (i + 5)) = some ()) : f_law_C2721 K xs L μ o d (nI i) = some () := by
  obtain ⟨μ1, r, k, μ2, r2, t, e1, e2, e3, R2, hcc⟩ := pc_restore hR
  have e2' : f_X10_restore μ1 = some (μ2, r2) := e2
  have hk := fun o' d' => hK μ2 o' d' (mt_R_m R2 (by omega))
  rcases hcc with ⟨rfl, rfl, rfl⟩ | hcc
  · simp (discharger := omega) only [f_law_C2721, f_L_restore, f_X10_thrown, nI_add, mt_mul, nI_clamp, nI_leI, nI_ltI, nI_eq, mt_in_t, mt_b1, mt_b2, mt_b3, mt_b4, mt_l, mt_g, ↓reduceIte, Nat.reduceEqDiff, Nat.reduceLeDiff, ml_0, ml_1, ml_2, ml_3, ml_4, ml_5, ml_6, ml_7, ml_8, ml_9, ml_10, ml_11, ml_12, ml_13, ml_14, ml_16, ml_31, ml_32, ml_40, ml_42, ml_48, ml_50, ml_57, ml_59, ml_60, ml_63, ml_98, ml_100, ml_103, ml_104, ml_105, ml_106, ml_107, ml_108, ml_109, ml_110, ml_111, ml_112, ml_113, ml_114, ml_115, ml_120, ml_127, ml_176, ml_180, ml_200, ml_254, ml_255, ml_256, ml_300, ml_728, ml_832, ml_65536, e1, e2', e3, mt_cmp, hk]
  · rcases hcc with ⟨rfl, rfl⟩ <;> simp (discharger := omega) only [f_law_C2721, f_L_restore, f_X10_thrown, nI_add, mt_mul, nI_clamp, nI_leI, nI_ltI, nI_eq, mt_in_t, mt_b1, mt_b2, mt_b3, mt_b4, mt_l, mt_g, ↓reduceIte, Nat.reduceEqDiff, Nat.reduceLeDiff, ml_0, ml_1, ml_2, ml_3, ml_4, ml_5, ml_6, ml_7, ml_8, ml_9, ml_10, ml_11, ml_12, ml_13, ml_14, ml_16, ml_31, ml_32, ml_40, ml_42, ml_48, ml_50, ml_57, ml_59, ml_60, ml_63, ml_98, ml_100, ml_103, ml_104, ml_105, ml_106, ml_107, ml_108, ml_109, ml_110, ml_111, ml_112, ml_113, ml_114, ml_115, ml_120, ml_127, ml_176, ml_180, ml_200, ml_254, ml_255, ml_256, ml_300, ml_728, ml_832, ml_65536, e1, e2', e3, mt_cmp, hk]
end LW
/-! the law's loop -/
theorem mt_lawc {L i : Nat} (hL : L ≤ 2560) (hi : i ≤ L) : (Int32.ofNat L - (5 : Int32) < nI i) ↔ L < i + 5 := by
  show nI L - nI 5 < nI i ↔ _
  rw [Int32.lt_iff_toInt_lt, Int32.toInt_sub, nI_toInt (by omega), nI_toInt (by omega), nI_toInt (by omega), Int.bmod_eq_of_le (by omega) (by omega)]
  omega
theorem law_loop {xs : Nat → Int32} {L : Nat} (hL : L ≤ 2560) : ∀ (k n i B : Nat) (μ : fw_M) (o : Int64) (d : UInt64), L < i + 5 * (k + 1) → i ≤ L → k < n → B + 12 * k < 100000 → mt_R B μ → f_law_L xs L n μ o d (nI i) = some () := by
  intro k
  induction k with
  | zero =>
    intro n i B μ o d h1 h2 hn hB hR
    obtain ⟨n, rfl⟩ : ∃ q, n = q + 1 := ⟨n - 1, by omega⟩
    rw [f_law_L, if_pos ((mt_lawc hL h2).mpr (by omega))]
  | succ k ih =>
    intro n i B μ o d h1 h2 hn hB hR
    obtain ⟨n, rfl⟩ : ∃ q, n = q + 1 := ⟨n - 1, by omega⟩
    by_cases hend : L < i + 5
    · rw [f_law_L, if_pos ((mt_lawc hL h2).mpr hend)]
    · rw [f_law_L, if_neg (fun z => hend ((mt_lawc hL h2).mp z)), mt_in_t (by omega) (by omega), mt_g, nI_clamp (by omega)]
      have hK : ∀ μ' o' d', mt_R (B + 12) μ' → f_law_L xs L n μ' o' d' (nI (i + 5)) = some () := fun μ' o' d' hR' => ih n (i + 5) (B + 12) μ' o' d' (by omega) (by omega) (by omega) (by omega) hR'
      generalize (xs i &&& (63 : Int32)) = q
      by_cases h0 : q = (0 : Int32)
      · rw [if_pos h0]
        exact lw_248 hR hL (by omega) (by omega) hK
      rw [if_neg h0]
      by_cases h1 : q = (1 : Int32)
      · rw [if_pos h1]
        exact lw_356 hR hL (by omega) (by omega) hK
      rw [if_neg h1]
      by_cases h2 : q = (2 : Int32)
      · rw [if_pos h2]
        exact lw_424 hR hL (by omega) (by omega) hK
      rw [if_neg h2]
      by_cases h3 : q = (3 : Int32)
      · rw [if_pos h3]
        exact lw_480 hR hL (by omega) (by omega) hK
      rw [if_neg h3]
      by_cases h4 : q = (4 : Int32)
      · rw [if_pos h4]
        exact lw_570 hR hL (by omega) (by omega) hK
      rw [if_neg h4]
      by_cases h5 : q = (5 : Int32)
      · rw [if_pos h5]
        exact lw_626 hR hL (by omega) (by omega) hK
      rw [if_neg h5]
      by_cases h6 : q = (6 : Int32)
      · rw [if_pos h6]
        exact lw_639 hR hL (by omega) (by omega) hK
      rw [if_neg h6]
      by_cases h7 : q = (7 : Int32)
      · rw [if_pos h7]
        exact lw_695 hR hL (by omega) (by omega) hK
      rw [if_neg h7]
      by_cases h8 : q = (8 : Int32)
      · rw [if_pos h8]
        exact lw_758 hR hL (by omega) (by omega) hK
      rw [if_neg h8]
      by_cases h9 : q = (9 : Int32)
      · rw [if_pos h9]
        exact lw_814 hR hL (by omega) (by omega) hK
      rw [if_neg h9]
      by_cases h10 : q = (10 : Int32)
      · rw [if_pos h10]
        exact lw_870 hR hL (by omega) (by omega) hK
      rw [if_neg h10]
      by_cases h11 : q = (11 : Int32)
      · rw [if_pos h11]
        exact lw_926 hR hL (by omega) (by omega) hK
      rw [if_neg h11]
      by_cases h12 : q = (12 : Int32)
      · rw [if_pos h12]
        exact lw_982 hR hL (by omega) (by omega) hK
      rw [if_neg h12]
      by_cases h13 : q = (13 : Int32)
      · rw [if_pos h13]
        exact lw_1038 hR hL (by omega) (by omega) hK
      rw [if_neg h13]
      by_cases h14 : q = (14 : Int32)
      · rw [if_pos h14]
        exact lw_1094 hR hL (by omega) (by omega) hK
      rw [if_neg h14]
      by_cases h15 : q = (15 : Int32)
      · rw [if_pos h15]
        exact lw_1150 hR hL (by omega) (by omega) hK
      rw [if_neg h15]
      by_cases h16 : q = (16 : Int32)
      · rw [if_pos h16]
        exact lw_1206 hR hL (by omega) (by omega) hK
      rw [if_neg h16]
      by_cases h17 : q = (17 : Int32)
      · rw [if_pos h17]
        exact lw_1262 hR hL (by omega) (by omega) hK
      rw [if_neg h17]
      by_cases h18 : q = (18 : Int32)
      · rw [if_pos h18]
        exact lw_1318 hR hL (by omega) (by omega) hK
      rw [if_neg h18]
      by_cases h19 : q = (19 : Int32)
      · rw [if_pos h19]
        exact lw_1331 hR hL (by omega) (by omega) hK
      rw [if_neg h19]
      by_cases h20 : q = (20 : Int32)
      · rw [if_pos h20]
        exact lw_1409 hR hL (by omega) (by omega) hK
      rw [if_neg h20]
      by_cases h21 : q = (21 : Int32)
      · rw [if_pos h21]
        exact lw_1465 hR hL (by omega) (by omega) hK
      rw [if_neg h21]
      by_cases h22 : q = (22 : Int32)
      · rw [if_pos h22]
        exact lw_1521 hR hL (by omega) (by omega) hK
      rw [if_neg h22]
      by_cases h23 : q = (23 : Int32)
      · rw [if_pos h23]
        exact lw_1577 hR hL (by omega) (by omega) hK
      rw [if_neg h23]
      by_cases h24 : q = (24 : Int32)
      · rw [if_pos h24]
        exact lw_1633 hR hL (by omega) (by omega) hK
      rw [if_neg h24]
      by_cases h25 : q = (25 : Int32)
      · rw [if_pos h25]
        exact lw_1689 hR hL (by omega) (by omega) hK
      rw [if_neg h25]
      by_cases h26 : q = (26 : Int32)
      · rw [if_pos h26]
        exact lw_1745 hR hL (by omega) (by omega) hK
      rw [if_neg h26]
      by_cases h27 : q = (27 : Int32)
      · rw [if_pos h27]
        exact lw_1801 hR hL (by omega) (by omega) hK
      rw [if_neg h27]
      by_cases h28 : q = (28 : Int32)
      · rw [if_pos h28]
        exact lw_1891 hR hL (by omega) (by omega) hK
      rw [if_neg h28]
      by_cases h29 : q = (29 : Int32)
      · rw [if_pos h29]
        exact lw_1969 hR hL (by omega) (by omega) hK
      rw [if_neg h29]
      by_cases h30 : q = (30 : Int32)
      · rw [if_pos h30]
        exact lw_2025 hR hL (by omega) (by omega) hK
      rw [if_neg h30]
      by_cases h31 : q = (31 : Int32)
      · rw [if_pos h31]
        exact lw_2080 hR hL (by omega) (by omega) hK
      rw [if_neg h31]
      by_cases h32 : q = (32 : Int32)
      · rw [if_pos h32]
        exact lw_2093 hR hL (by omega) (by omega) hK
      rw [if_neg h32]
      by_cases h33 : q = (33 : Int32)
      · rw [if_pos h33]
        exact lw_2149 hR hL (by omega) (by omega) hK
      rw [if_neg h33]
      by_cases h34 : q = (34 : Int32)
      · rw [if_pos h34]
        exact lw_2205 hR hL (by omega) (by omega) hK
      rw [if_neg h34]
      by_cases h35 : q = (35 : Int32)
      · rw [if_pos h35]
        exact lw_2270 hR hL (by omega) (by omega) hK
      rw [if_neg h35]
      by_cases h36 : q = (36 : Int32)
      · rw [if_pos h36]
        exact lw_2336 hR hL (by omega) (by omega) hK
      rw [if_neg h36]
      by_cases h37 : q = (37 : Int32)
      · rw [if_pos h37]
        exact lw_2349 hR hL (by omega) (by omega) hK
      rw [if_neg h37]
      by_cases h38 : q = (38 : Int32)
      · rw [if_pos h38]
        exact lw_2407 hR hL (by omega) (by omega) hK
      rw [if_neg h38]
      by_cases h39 : q = (39 : Int32)
      · rw [if_pos h39]
        exact lw_2451 hR hL (by omega) (by omega) hK
      rw [if_neg h39]
      by_cases h40 : q = (40 : Int32)
      · rw [if_pos h40]
        exact lw_2495 hR hL (by omega) (by omega) hK
      rw [if_neg h40]
      by_cases h41 : q = (41 : Int32)
      · rw [if_pos h41]
        exact lw_2539 hR hL (by omega) (by omega) hK
      rw [if_neg h41]
      by_cases h42 : q = (42 : Int32)
      · rw [if_pos h42]
        exact lw_2595 hR hL (by omega) (by omega) hK
      rw [if_neg h42]
      by_cases h43 : q = (43 : Int32)
      · rw [if_pos h43]
        exact lw_2651 hR hL (by omega) (by omega) hK
      rw [if_neg h43]
      by_cases h44 : q = (44 : Int32)
      · rw [if_pos h44]
        exact lw_2664 hR hL (by omega) (by omega) hK
      rw [if_neg h44]
      by_cases h45 : q = (45 : Int32)
      · rw [if_pos h45]
        exact lw_2708 hR hL (by omega) (by omega) hK
      rw [if_neg h45]
      by_cases h46 : q = (46 : Int32)
      · rw [if_pos h46]
        exact lw_2721 hR hL (by omega) (by omega) hK
      rw [if_neg h46]
      rw [show nI i + (5 : Int32) = nI (i + 5) from nI_add i 5]
      exact hK _ _ _ (mt_R_m hR (by omega))
/-! the first memory -/
theorem mt_R0 : mt_R 0 fb_mu := by
  refine ⟨⟨fun i => if i = 2 ∨ i = 3 then 80 else 0, ⟨?_, ?_, ⟨⟨by decide, fun g hg => absurd hg (Nat.not_lt_zero g)⟩, by decide, fun m hm => ?_, fun m hm => ?_, fun c hc => ?_⟩⟩⟩, ⟨0, fun _ _ => 0, by decide, ⟨0, by decide, rfl, rfl, fun i hi => absurd hi (Nat.not_lt_zero i)⟩, ⟨rfl, fun i hi => absurd hi (Nat.not_lt_zero i)⟩, fun i hi => absurd hi (Nat.not_lt_zero i)⟩, Or.inl ⟨rfl, rfl⟩, ⟨0, by decide, rfl, rfl, fun i hi => absurd hi (Nat.not_lt_zero i)⟩, ⟨4294967295, Or.inl rfl, rfl, rfl⟩, ⟨4294967295, Or.inl rfl, rfl, rfl⟩, ⟨0, by decide, rfl, rfl, fun i hi => absurd hi (Nat.not_lt_zero i)⟩⟩
  · refine mt_C_of rfl rfl (fun m hm => ?_) (fun c hc => ?_) (fun w hw g hg => absurd hg (Nat.not_lt_zero g))
    · have hc : m = 0 ∨ m = 1 := by omega
      rcases hc with rfl | rfl <;> rfl
    · have hq : c = 0 ∨ c = 1 ∨ c = 2 ∨ c = 3 := by omega
      rcases hq with rfl | rfl | rfl | rfl <;> rfl
  · intro i hi
    rw [Nat.zero_add]
    show upd (upd (fun _ => 0) 2 80) 3 80 i = nI (if i = 2 ∨ i = 3 then 80 else 0)
    unfold upd
    by_cases h3 : i = 3
    · rw [if_pos h3, if_pos (Or.inr h3)]
      rfl
    · rw [if_neg h3]
      by_cases h2 : i = 2
      · rw [if_pos h2, if_pos (Or.inl h2)]
        rfl
      · rw [if_neg h2, if_neg (by omega)]
        rfl
  · have hc : m = 0 ∨ m = 1 := by omega
    rcases hc with rfl | rfl <;> decide
  · exact Nat.zero_le _
  · have hq : c = 0 ∨ c = 1 ∨ c = 2 ∨ c = 3 := by omega
    refine ⟨Or.inl ?_, ?_, ?_⟩
    · rcases hq with rfl | rfl | rfl | rfl <;> rfl
    · rcases hq with rfl | rfl | rfl | rfl <;> decide
    · rcases hq with rfl | rfl | rfl | rfl <;> exact Nat.zero_le _
theorem law_math (xs : Nat → Int32) (L : Nat) (hL : L ≤ 2560) : f_law_L xs L 1000 fb_mu 0 0 0 = some () := law_loop hL 512 1000 0 0 fb_mu 0 0 (by omega) (by omega) (by omega) (by omega) mt_R0
