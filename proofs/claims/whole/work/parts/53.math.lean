/-! the mathematics, 14: more calls that only read -/
section PS
variable {μ : fw_M} {B : Nat}
theorem mt_fr_same {μ a : fw_M} (h : mt_fr (mt_sC 1) μ a) : mt_sm1 μ a := ⟨fun j f _ hj => h j f (mt_sC_f (Or.inl hj)), fun f q => h 0 f (mt_sC_f (Or.inl (by decide))), by rw [h 0 13 (mt_sC_f (Or.inl (by decide)))], fun i _ => by rw [h 0 18 (mt_sC_f (Or.inl (by decide)))]⟩
theorem mc_trial {σ : Nat → Nat} {m : Nat} (hC : mt_C μ 0 σ) (hk : mt_k σ) (hm : m < 2) (hh : σ (2 + m) < 1000) : ∃ a, f_X9_damageOfTrial μ (nI m) = some (a, nI (ms_harm σ m (σ (2 + m)))) ∧ mt_fr (mt_sC 1) μ a := by
  obtain ⟨a, e1, C1, F1⟩ := mc_copyFrom (j0 := 1) (j1 := 0) (by decide) hC hk
  obtain ⟨b, e2, F2⟩ := mc_damageOfWashing C1 hk hm hh
  refine ⟨b, ?_, mt_fr_t F1 F2⟩
  simp (discharger := omega) only [f_X9_damageOfTrial, nI_add, mt_mul, nI_clamp, nI_leI, nI_ltI, nI_eq, mt_in_t, mt_b1, mt_b2, mt_b3, mt_b4, mt_l, mt_g, ↓reduceIte, Nat.reduceEqDiff, Nat.reduceLeDiff, ml_0, ml_1, ml_2, ml_3, ml_4, ml_5, ml_6, ml_7, ml_8, ml_9, ml_10, ml_11, ml_12, ml_13, ml_14, ml_16, ml_31, ml_32, ml_40, ml_42, ml_48, ml_50, ml_57, ml_59, ml_60, ml_63, ml_98, ml_100, ml_103, ml_104, ml_105, ml_106, ml_107, ml_108, ml_109, ml_110, ml_111, ml_112, ml_113, ml_114, ml_115, ml_120, ml_127, ml_176, ml_180, ml_200, ml_254, ml_255, ml_256, ml_300, ml_728, ml_832, ml_65536, e1, e2]
theorem pc_damage (hR : mt_R B μ) (x : Int32) : mt_A B Eq mt_e1 (f_X9_damage μ x) (fun m => f_X10_damage m x) := by
  obtain ⟨σ, hC, hM, hok⟩ := hR.1
  have hk := hok.1
  rcases mt_mac μ μ x with ⟨c, hc, rfl, q1, q2⟩ | ⟨q1, q2⟩
  · have hh := hok.2.2.1 c hc
    obtain ⟨a, e1, F1⟩ := mc_trial hC hk hc (by omega)
    have hR' := mt_R_s hR (mt_fr_same F1)
    have hM1 : mt_M a 19 0 σ := mt_M_k hM (F1 0 19 (mt_sC_f (Or.inl (by decide))))
    have hM' := mt_M_t (t := 0) hM1 (by decide)
    have rh := mt_at hM' (i := 2 + c) (by omega)
    have e2 := mr_harm hM' hk hc (h := σ (2 + c)) (by omega)
    rcases mt_mac a a (nI c) with ⟨c', hc', hcc, q1', q2'⟩ | ⟨q1', q2'⟩
    · refine ⟨a, nI (ms_harm σ c (σ (2 + c))), 0, _, nI (ms_harm σ c (σ (2 + c))), 0, ?_, ?_, mt_uy rfl, mt_R_t hR', Or.inl ⟨rfl, rfl, rfl⟩⟩
      · simp (discharger := omega) only [f_X9_damage, f_X9_requireMachine, nI_add, mt_mul, nI_clamp, nI_leI, nI_ltI, nI_eq, mt_in_t, mt_b1, mt_b2, mt_b3, mt_b4, mt_l, mt_g, ↓reduceIte, Nat.reduceEqDiff, Nat.reduceLeDiff, ml_0, ml_1, ml_2, ml_3, ml_4, ml_5, ml_6, ml_7, ml_8, ml_9, ml_10, ml_11, ml_12, ml_13, ml_14, ml_16, ml_31, ml_32, ml_40, ml_42, ml_48, ml_50, ml_57, ml_59, ml_60, ml_63, ml_98, ml_100, ml_103, ml_104, ml_105, ml_106, ml_107, ml_108, ml_109, ml_110, ml_111, ml_112, ml_113, ml_114, ml_115, ml_120, ml_127, ml_176, ml_180, ml_200, ml_254, ml_255, ml_256, ml_300, ml_728, ml_832, ml_65536, q1, e1]
      · simp (discharger := omega) only [f_X10_damage, f_X10_damage_J13, nI_add, mt_mul, nI_clamp, nI_leI, nI_ltI, nI_eq, mt_in_t, mt_b1, mt_b2, mt_b3, mt_b4, mt_l, mt_g, ↓reduceIte, Nat.reduceEqDiff, Nat.reduceLeDiff, ml_0, ml_1, ml_2, ml_3, ml_4, ml_5, ml_6, ml_7, ml_8, ml_9, ml_10, ml_11, ml_12, ml_13, ml_14, ml_16, ml_31, ml_32, ml_40, ml_42, ml_48, ml_50, ml_57, ml_59, ml_60, ml_63, ml_98, ml_100, ml_103, ml_104, ml_105, ml_106, ml_107, ml_108, ml_109, ml_110, ml_111, ml_112, ml_113, ml_114, ml_115, ml_120, ml_127, ml_176, ml_180, ml_200, ml_254, ml_255, ml_256, ml_300, ml_728, ml_832, ml_65536, q2', mt_uy, rh, e2, Nat.le_refl]
    · exfalso
      have z := mr_isMachine (μ := a) hc
      rw [q2'] at z
      have := (nI_eq (by omega) (by omega)).mp (Option.some.inj z)
      omega
  · refine mt_A_no (k := 1) (t := 1) (r := nI 0) (r2 := nI 0) hR ?_ ?_ ⟨rfl, rfl⟩
    · simp (discharger := omega) only [f_X9_damage, f_X9_requireMachine, nI_add, mt_mul, nI_clamp, nI_leI, nI_ltI, nI_eq, mt_in_t, mt_b1, mt_b2, mt_b3, mt_b4, mt_l, mt_g, ↓reduceIte, Nat.reduceEqDiff, Nat.reduceLeDiff, ml_0, ml_1, ml_2, ml_3, ml_4, ml_5, ml_6, ml_7, ml_8, ml_9, ml_10, ml_11, ml_12, ml_13, ml_14, ml_16, ml_31, ml_32, ml_40, ml_42, ml_48, ml_50, ml_57, ml_59, ml_60, ml_63, ml_98, ml_100, ml_103, ml_104, ml_105, ml_106, ml_107, ml_108, ml_109, ml_110, ml_111, ml_112, ml_113, ml_114, ml_115, ml_120, ml_127, ml_176, ml_180, ml_200, ml_254, ml_255, ml_256, ml_300, ml_728, ml_832, ml_65536, q1]
    · simp (discharger := omega) only [f_X10_damage, f_X10_damage_J13, nI_add, mt_mul, nI_clamp, nI_leI, nI_ltI, nI_eq, mt_in_t, mt_b1, mt_b2, mt_b3, mt_b4, mt_l, mt_g, ↓reduceIte, Nat.reduceEqDiff, Nat.reduceLeDiff, ml_0, ml_1, ml_2, ml_3, ml_4, ml_5, ml_6, ml_7, ml_8, ml_9, ml_10, ml_11, ml_12, ml_13, ml_14, ml_16, ml_31, ml_32, ml_40, ml_42, ml_48, ml_50, ml_57, ml_59, ml_60, ml_63, ml_98, ml_100, ml_103, ml_104, ml_105, ml_106, ml_107, ml_108, ml_109, ml_110, ml_111, ml_112, ml_113, ml_114, ml_115, ml_120, ml_127, ml_176, ml_180, ml_200, ml_254, ml_255, ml_256, ml_300, ml_728, ml_832, ml_65536, q2, mt_uy]
def mt_e2 (k t : Nat) : Prop := (k = 1 ∧ t = 1) ∨ (k = 3 ∧ t = 2)
theorem pc_bestTemperature (hR : mt_R B μ) (x : Int32) : mt_A B Eq mt_e2 (f_X9_bestTemperature μ x) (fun m => f_X10_bestTemperature m x) := by
  obtain ⟨σ, hC, hM, hok⟩ := hR.1
  have hk := hok.1
  rcases mt_mac μ μ x with ⟨c, hc, rfl, q1, q2⟩ | ⟨q1, q2⟩
  · have e0 := mc_countIn hC hk hc
    have e1 := mr_held hM hk hc
    have hb := ms_held_lt hk c
    by_cases p : ms_held σ c = 0
    · refine mt_A_no (k := 3) (t := 2) (r := nI 0) (r2 := nI 0) hR ?_ ?_ (Or.inr ⟨rfl, rfl⟩)
      · simp (discharger := omega) only [f_X9_bestTemperature, f_X9_requireMachine, nI_add, mt_mul, nI_clamp, nI_leI, nI_ltI, nI_eq, mt_in_t, mt_b1, mt_b2, mt_b3, mt_b4, mt_l, mt_g, ↓reduceIte, Nat.reduceEqDiff, Nat.reduceLeDiff, ml_0, ml_1, ml_2, ml_3, ml_4, ml_5, ml_6, ml_7, ml_8, ml_9, ml_10, ml_11, ml_12, ml_13, ml_14, ml_16, ml_31, ml_32, ml_40, ml_42, ml_48, ml_50, ml_57, ml_59, ml_60, ml_63, ml_98, ml_100, ml_103, ml_104, ml_105, ml_106, ml_107, ml_108, ml_109, ml_110, ml_111, ml_112, ml_113, ml_114, ml_115, ml_120, ml_127, ml_176, ml_180, ml_200, ml_254, ml_255, ml_256, ml_300, ml_728, ml_832, ml_65536, q1, e0, p]
      · simp (discharger := omega) only [f_X10_bestTemperature, f_X10_bestTemperature_J25, nI_add, mt_mul, nI_clamp, nI_leI, nI_ltI, nI_eq, mt_in_t, mt_b1, mt_b2, mt_b3, mt_b4, mt_l, mt_g, ↓reduceIte, Nat.reduceEqDiff, Nat.reduceLeDiff, ml_0, ml_1, ml_2, ml_3, ml_4, ml_5, ml_6, ml_7, ml_8, ml_9, ml_10, ml_11, ml_12, ml_13, ml_14, ml_16, ml_31, ml_32, ml_40, ml_42, ml_48, ml_50, ml_57, ml_59, ml_60, ml_63, ml_98, ml_100, ml_103, ml_104, ml_105, ml_106, ml_107, ml_108, ml_109, ml_110, ml_111, ml_112, ml_113, ml_114, ml_115, ml_120, ml_127, ml_176, ml_180, ml_200, ml_254, ml_255, ml_256, ml_300, ml_728, ml_832, ml_65536, q2, e1, p, mt_uy]
    · have e2 := mc_least hC hk hc
      have e3 := mr_best (mt_M_t (t := 0) hM (by decide)) hk hc
      refine mt_A_ok (r := nI (ms_bc (ms_harm σ c) 8)) (r2 := nI (ms_bc (ms_harm σ c) 8)) hR ?_ ?_ rfl
      · simp (discharger := omega) only [f_X9_bestTemperature, f_X9_requireMachine, nI_add, mt_mul, nI_clamp, nI_leI, nI_ltI, nI_eq, mt_in_t, mt_b1, mt_b2, mt_b3, mt_b4, mt_l, mt_g, ↓reduceIte, Nat.reduceEqDiff, Nat.reduceLeDiff, ml_0, ml_1, ml_2, ml_3, ml_4, ml_5, ml_6, ml_7, ml_8, ml_9, ml_10, ml_11, ml_12, ml_13, ml_14, ml_16, ml_31, ml_32, ml_40, ml_42, ml_48, ml_50, ml_57, ml_59, ml_60, ml_63, ml_98, ml_100, ml_103, ml_104, ml_105, ml_106, ml_107, ml_108, ml_109, ml_110, ml_111, ml_112, ml_113, ml_114, ml_115, ml_120, ml_127, ml_176, ml_180, ml_200, ml_254, ml_255, ml_256, ml_300, ml_728, ml_832, ml_65536, q1, e0, p, e2]
      · have l41 : (41 : Int32) = nI 41 := rfl
        simp (discharger := omega) only [f_X10_bestTemperature, f_X10_bestTemperature_J25, nI_add, mt_mul, nI_clamp, nI_leI, nI_ltI, nI_eq, mt_in_t, mt_b1, mt_b2, mt_b3, mt_b4, mt_l, mt_g, ↓reduceIte, Nat.reduceEqDiff, Nat.reduceLeDiff, ml_0, ml_1, ml_2, ml_3, ml_4, ml_5, ml_6, ml_7, ml_8, ml_9, ml_10, ml_11, ml_12, ml_13, ml_14, ml_16, ml_31, ml_32, ml_40, ml_42, ml_48, ml_50, ml_57, ml_59, ml_60, ml_63, ml_98, ml_100, ml_103, ml_104, ml_105, ml_106, ml_107, ml_108, ml_109, ml_110, ml_111, ml_112, ml_113, ml_114, ml_115, ml_120, ml_127, ml_176, ml_180, ml_200, ml_254, ml_255, ml_256, ml_300, ml_728, ml_832, ml_65536, q2, e1, p, mt_uy, l41, e3, Nat.le_refl]
  · refine mt_A_no (k := 1) (t := 1) (r := nI 0) (r2 := nI 0) hR ?_ ?_ (Or.inl ⟨rfl, rfl⟩)
    · simp (discharger := omega) only [f_X9_bestTemperature, f_X9_requireMachine, nI_add, mt_mul, nI_clamp, nI_leI, nI_ltI, nI_eq, mt_in_t, mt_b1, mt_b2, mt_b3, mt_b4, mt_l, mt_g, ↓reduceIte, Nat.reduceEqDiff, Nat.reduceLeDiff, ml_0, ml_1, ml_2, ml_3, ml_4, ml_5, ml_6, ml_7, ml_8, ml_9, ml_10, ml_11, ml_12, ml_13, ml_14, ml_16, ml_31, ml_32, ml_40, ml_42, ml_48, ml_50, ml_57, ml_59, ml_60, ml_63, ml_98, ml_100, ml_103, ml_104, ml_105, ml_106, ml_107, ml_108, ml_109, ml_110, ml_111, ml_112, ml_113, ml_114, ml_115, ml_120, ml_127, ml_176, ml_180, ml_200, ml_254, ml_255, ml_256, ml_300, ml_728, ml_832, ml_65536, q1]
    · simp (discharger := omega) only [f_X10_bestTemperature, f_X10_bestTemperature_J25, nI_add, mt_mul, nI_clamp, nI_leI, nI_ltI, nI_eq, mt_in_t, mt_b1, mt_b2, mt_b3, mt_b4, mt_l, mt_g, ↓reduceIte, Nat.reduceEqDiff, Nat.reduceLeDiff, ml_0, ml_1, ml_2, ml_3, ml_4, ml_5, ml_6, ml_7, ml_8, ml_9, ml_10, ml_11, ml_12, ml_13, ml_14, ml_16, ml_31, ml_32, ml_40, ml_42, ml_48, ml_50, ml_57, ml_59, ml_60, ml_63, ml_98, ml_100, ml_103, ml_104, ml_105, ml_106, ml_107, ml_108, ml_109, ml_110, ml_111, ml_112, ml_113, ml_114, ml_115, ml_120, ml_127, ml_176, ml_180, ml_200, ml_254, ml_255, ml_256, ml_300, ml_728, ml_832, ml_65536, q2, mt_uy]
/-! money -/
abbrev mt_fr2 (a b : UInt32) : Prop := a = b ∧ fw_f64 (FP.f2d a) = true ∧ Op.cmpValue (FP.dcmp (FP.f2d a) (FP.f2d a)) CmpOp.l = nI 0
theorem pc_price (hR : mt_R B μ) (x y : Int32) : mt_A B mt_fr2 mt_e1 (f_X9_price μ x y) (fun m => f_X10_price m x y) := by
  obtain ⟨σ, hC, hM, hok⟩ := hR.1
  have hk := hok.1
  rcases mt_mac μ μ x with ⟨m, hm, rfl, q1, q2⟩ | ⟨q1, q2⟩
  · rcases mt_cli μ μ y with ⟨c, hc, rfl, q3, q4⟩ | ⟨q3, q4⟩
    · have hh := hok.2.2.1 m hm
      have h5 := hok.2.2.2.1 m hm
      have e0 := mc_cost hC (fun _ _ => rfl) hk hm hc h5 hh.1 (by omega)
      have e1 := mr_cost (mt_M_t (t := 0) hM (by decide)) hk hm hc h5 hh.1 (by omega)
      obtain ⟨-, -, -, -, w5, w6⟩ := ms_costP hok hm hc
      refine mt_A_ok (r := ms_cost (σ (2 + m)) (ms_ho σ m c) (ms_pn σ m)) hR ?_ ?_ ⟨rfl, w5, w6⟩
      · simp (discharger := omega) only [f_X9_price, f_X9_requireMachine, f_X9_requireClient, nI_add, mt_mul, nI_clamp, nI_leI, nI_ltI, nI_eq, mt_in_t, mt_b1, mt_b2, mt_b3, mt_b4, mt_l, mt_g, ↓reduceIte, Nat.reduceEqDiff, Nat.reduceLeDiff, ml_0, ml_1, ml_2, ml_3, ml_4, ml_5, ml_6, ml_7, ml_8, ml_9, ml_10, ml_11, ml_12, ml_13, ml_14, ml_16, ml_31, ml_32, ml_40, ml_42, ml_48, ml_50, ml_57, ml_59, ml_60, ml_63, ml_98, ml_100, ml_103, ml_104, ml_105, ml_106, ml_107, ml_108, ml_109, ml_110, ml_111, ml_112, ml_113, ml_114, ml_115, ml_120, ml_127, ml_176, ml_180, ml_200, ml_254, ml_255, ml_256, ml_300, ml_728, ml_832, ml_65536, q1, q3, e0]
      · simp (discharger := omega) only [f_X10_price, f_X10_price_J20, nI_add, mt_mul, nI_clamp, nI_leI, nI_ltI, nI_eq, mt_in_t, mt_b1, mt_b2, mt_b3, mt_b4, mt_l, mt_g, ↓reduceIte, Nat.reduceEqDiff, Nat.reduceLeDiff, ml_0, ml_1, ml_2, ml_3, ml_4, ml_5, ml_6, ml_7, ml_8, ml_9, ml_10, ml_11, ml_12, ml_13, ml_14, ml_16, ml_31, ml_32, ml_40, ml_42, ml_48, ml_50, ml_57, ml_59, ml_60, ml_63, ml_98, ml_100, ml_103, ml_104, ml_105, ml_106, ml_107, ml_108, ml_109, ml_110, ml_111, ml_112, ml_113, ml_114, ml_115, ml_120, ml_127, ml_176, ml_180, ml_200, ml_254, ml_255, ml_256, ml_300, ml_728, ml_832, ml_65536, q2, q4, mt_uy, e1, Nat.le_refl]
    · refine mt_A_no (k := 1) (t := 1) (r := 0) (r2 := FP.fconst0) hR ?_ ?_ ⟨rfl, rfl⟩
      · simp (discharger := omega) only [f_X9_price, f_X9_requireMachine, f_X9_requireClient, nI_add, mt_mul, nI_clamp, nI_leI, nI_ltI, nI_eq, mt_in_t, mt_b1, mt_b2, mt_b3, mt_b4, mt_l, mt_g, ↓reduceIte, Nat.reduceEqDiff, Nat.reduceLeDiff, ml_0, ml_1, ml_2, ml_3, ml_4, ml_5, ml_6, ml_7, ml_8, ml_9, ml_10, ml_11, ml_12, ml_13, ml_14, ml_16, ml_31, ml_32, ml_40, ml_42, ml_48, ml_50, ml_57, ml_59, ml_60, ml_63, ml_98, ml_100, ml_103, ml_104, ml_105, ml_106, ml_107, ml_108, ml_109, ml_110, ml_111, ml_112, ml_113, ml_114, ml_115, ml_120, ml_127, ml_176, ml_180, ml_200, ml_254, ml_255, ml_256, ml_300, ml_728, ml_832, ml_65536, q1, q3]
      · simp (discharger := omega) only [f_X10_price, f_X10_price_J19, f_X10_price_J20, nI_add, mt_mul, nI_clamp, nI_leI, nI_ltI, nI_eq, mt_in_t, mt_b1, mt_b2, mt_b3, mt_b4, mt_l, mt_g, ↓reduceIte, Nat.reduceEqDiff, Nat.reduceLeDiff, ml_0, ml_1, ml_2, ml_3, ml_4, ml_5, ml_6, ml_7, ml_8, ml_9, ml_10, ml_11, ml_12, ml_13, ml_14, ml_16, ml_31, ml_32, ml_40, ml_42, ml_48, ml_50, ml_57, ml_59, ml_60, ml_63, ml_98, ml_100, ml_103, ml_104, ml_105, ml_106, ml_107, ml_108, ml_109, ml_110, ml_111, ml_112, ml_113, ml_114, ml_115, ml_120, ml_127, ml_176, ml_180, ml_200, ml_254, ml_255, ml_256, ml_300, ml_728, ml_832, ml_65536, q2, q4, mt_uy]
  · refine mt_A_no (k := 1) (t := 1) (r := 0) (r2 := FP.fconst0) hR ?_ ?_ ⟨rfl, rfl⟩
    · simp (discharger := omega) only [f_X9_price, f_X9_requireMachine, nI_add, mt_mul, nI_clamp, nI_leI, nI_ltI, nI_eq, mt_in_t, mt_b1, mt_b2, mt_b3, mt_b4, mt_l, mt_g, ↓reduceIte, Nat.reduceEqDiff, Nat.reduceLeDiff, ml_0, ml_1, ml_2, ml_3, ml_4, ml_5, ml_6, ml_7, ml_8, ml_9, ml_10, ml_11, ml_12, ml_13, ml_14, ml_16, ml_31, ml_32, ml_40, ml_42, ml_48, ml_50, ml_57, ml_59, ml_60, ml_63, ml_98, ml_100, ml_103, ml_104, ml_105, ml_106, ml_107, ml_108, ml_109, ml_110, ml_111, ml_112, ml_113, ml_114, ml_115, ml_120, ml_127, ml_176, ml_180, ml_200, ml_254, ml_255, ml_256, ml_300, ml_728, ml_832, ml_65536, q1]
    · simp (discharger := omega) only [f_X10_price, f_X10_price_J19, f_X10_price_J20, nI_add, mt_mul, nI_clamp, nI_leI, nI_ltI, nI_eq, mt_in_t, mt_b1, mt_b2, mt_b3, mt_b4, mt_l, mt_g, ↓reduceIte, Nat.reduceEqDiff, Nat.reduceLeDiff, ml_0, ml_1, ml_2, ml_3, ml_4, ml_5, ml_6, ml_7, ml_8, ml_9, ml_10, ml_11, ml_12, ml_13, ml_14, ml_16, ml_31, ml_32, ml_40, ml_42, ml_48, ml_50, ml_57, ml_59, ml_60, ml_63, ml_98, ml_100, ml_103, ml_104, ml_105, ml_106, ml_107, ml_108, ml_109, ml_110, ml_111, ml_112, ml_113, ml_114, ml_115, ml_120, ml_127, ml_176, ml_180, ml_200, ml_254, ml_255, ml_256, ml_300, ml_728, ml_832, ml_65536, q2, mt_uy]
theorem pc_paid (hR : mt_R B μ) (x : Int32) : mt_A B mt_fr2 mt_e1 (f_X9_paid μ x) (fun m => f_X10_paid m x) := by
  obtain ⟨σ, hC, hM, hok⟩ := hR.1
  rcases mt_cli μ μ x with ⟨c, hc, rfl, q1, q2⟩ | ⟨q1, q2⟩
  · have hF := hok.2.2.2.2 c hc
    have e0 := hC.2.2.2.1 c hc
    have e1 := mr_sumOf (mt_M_t (t := 0) hM (by decide)) hc hF
    obtain ⟨-, w5, w6⟩ := mf_f2d hF
    refine mt_A_ok (r := (nI (σ (100 + c))).toUInt32) hR ?_ ?_ ⟨rfl, w5, w6⟩
    · simp (discharger := omega) only [f_X9_paid, f_X9_requireClient, nI_add, mt_mul, nI_clamp, nI_leI, nI_ltI, nI_eq, mt_in_t, mt_b1, mt_b2, mt_b3, mt_b4, mt_l, mt_g, ↓reduceIte, Nat.reduceEqDiff, Nat.reduceLeDiff, ml_0, ml_1, ml_2, ml_3, ml_4, ml_5, ml_6, ml_7, ml_8, ml_9, ml_10, ml_11, ml_12, ml_13, ml_14, ml_16, ml_31, ml_32, ml_40, ml_42, ml_48, ml_50, ml_57, ml_59, ml_60, ml_63, ml_98, ml_100, ml_103, ml_104, ml_105, ml_106, ml_107, ml_108, ml_109, ml_110, ml_111, ml_112, ml_113, ml_114, ml_115, ml_120, ml_127, ml_176, ml_180, ml_200, ml_254, ml_255, ml_256, ml_300, ml_728, ml_832, ml_65536, q1, e0]
    · simp (discharger := omega) only [f_X10_paid, f_X10_paid_J13, nI_add, mt_mul, nI_clamp, nI_leI, nI_ltI, nI_eq, mt_in_t, mt_b1, mt_b2, mt_b3, mt_b4, mt_l, mt_g, ↓reduceIte, Nat.reduceEqDiff, Nat.reduceLeDiff, ml_0, ml_1, ml_2, ml_3, ml_4, ml_5, ml_6, ml_7, ml_8, ml_9, ml_10, ml_11, ml_12, ml_13, ml_14, ml_16, ml_31, ml_32, ml_40, ml_42, ml_48, ml_50, ml_57, ml_59, ml_60, ml_63, ml_98, ml_100, ml_103, ml_104, ml_105, ml_106, ml_107, ml_108, ml_109, ml_110, ml_111, ml_112, ml_113, ml_114, ml_115, ml_120, ml_127, ml_176, ml_180, ml_200, ml_254, ml_255, ml_256, ml_300, ml_728, ml_832, ml_65536, q2, mt_uy, e1, Nat.le_refl]
  · refine mt_A_no (k := 1) (t := 1) (r := 0) (r2 := FP.fconst0) hR ?_ ?_ ⟨rfl, rfl⟩
    · simp (discharger := omega) only [f_X9_paid, f_X9_requireClient, nI_add, mt_mul, nI_clamp, nI_leI, nI_ltI, nI_eq, mt_in_t, mt_b1, mt_b2, mt_b3, mt_b4, mt_l, mt_g, ↓reduceIte, Nat.reduceEqDiff, Nat.reduceLeDiff, ml_0, ml_1, ml_2, ml_3, ml_4, ml_5, ml_6, ml_7, ml_8, ml_9, ml_10, ml_11, ml_12, ml_13, ml_14, ml_16, ml_31, ml_32, ml_40, ml_42, ml_48, ml_50, ml_57, ml_59, ml_60, ml_63, ml_98, ml_100, ml_103, ml_104, ml_105, ml_106, ml_107, ml_108, ml_109, ml_110, ml_111, ml_112, ml_113, ml_114, ml_115, ml_120, ml_127, ml_176, ml_180, ml_200, ml_254, ml_255, ml_256, ml_300, ml_728, ml_832, ml_65536, q1]
    · simp (discharger := omega) only [f_X10_paid, f_X10_paid_J13, nI_add, mt_mul, nI_clamp, nI_leI, nI_ltI, nI_eq, mt_in_t, mt_b1, mt_b2, mt_b3, mt_b4, mt_l, mt_g, ↓reduceIte, Nat.reduceEqDiff, Nat.reduceLeDiff, ml_0, ml_1, ml_2, ml_3, ml_4, ml_5, ml_6, ml_7, ml_8, ml_9, ml_10, ml_11, ml_12, ml_13, ml_14, ml_16, ml_31, ml_32, ml_40, ml_42, ml_48, ml_50, ml_57, ml_59, ml_60, ml_63, ml_98, ml_100, ml_103, ml_104, ml_105, ml_106, ml_107, ml_108, ml_109, ml_110, ml_111, ml_112, ml_113, ml_114, ml_115, ml_120, ml_127, ml_176, ml_180, ml_200, ml_254, ml_255, ml_256, ml_300, ml_728, ml_832, ml_65536, q2, mt_uy]
theorem pc_paidBits (hR : mt_R B μ) (x : Int32) : mt_A B Eq mt_e1 (f_X9_paidBits μ x) (fun m => f_X10_paidBits m x) := by
  obtain ⟨σ, hC, hM, hok⟩ := hR.1
  rcases mt_cli μ μ x with ⟨c, hc, rfl, q1, q2⟩ | ⟨q1, q2⟩
  · have hF := hok.2.2.2.2 c hc
    have e0 := hC.2.2.2.1 c hc
    have e1 := mt_at (mt_M_t (t := 0) hM (by decide)) (i := 100 + c) (by omega)
    have e2 := mf_bits (μ := μ) hF
    refine mt_A_ok (r := nI (σ (100 + c))) hR ?_ ?_ rfl
    · simp (discharger := omega) only [f_X9_paidBits, f_X9_requireClient, nI_add, mt_mul, nI_clamp, nI_leI, nI_ltI, nI_eq, mt_in_t, mt_b1, mt_b2, mt_b3, mt_b4, mt_l, mt_g, ↓reduceIte, Nat.reduceEqDiff, Nat.reduceLeDiff, ml_0, ml_1, ml_2, ml_3, ml_4, ml_5, ml_6, ml_7, ml_8, ml_9, ml_10, ml_11, ml_12, ml_13, ml_14, ml_16, ml_31, ml_32, ml_40, ml_42, ml_48, ml_50, ml_57, ml_59, ml_60, ml_63, ml_98, ml_100, ml_103, ml_104, ml_105, ml_106, ml_107, ml_108, ml_109, ml_110, ml_111, ml_112, ml_113, ml_114, ml_115, ml_120, ml_127, ml_176, ml_180, ml_200, ml_254, ml_255, ml_256, ml_300, ml_728, ml_832, ml_65536, q1, e0, e2]
    · simp (discharger := omega) only [f_X10_paidBits, f_X10_paidBits_J13, nI_add, mt_mul, nI_clamp, nI_leI, nI_ltI, nI_eq, mt_in_t, mt_b1, mt_b2, mt_b3, mt_b4, mt_l, mt_g, ↓reduceIte, Nat.reduceEqDiff, Nat.reduceLeDiff, ml_0, ml_1, ml_2, ml_3, ml_4, ml_5, ml_6, ml_7, ml_8, ml_9, ml_10, ml_11, ml_12, ml_13, ml_14, ml_16, ml_31, ml_32, ml_40, ml_42, ml_48, ml_50, ml_57, ml_59, ml_60, ml_63, ml_98, ml_100, ml_103, ml_104, ml_105, ml_106, ml_107, ml_108, ml_109, ml_110, ml_111, ml_112, ml_113, ml_114, ml_115, ml_120, ml_127, ml_176, ml_180, ml_200, ml_254, ml_255, ml_256, ml_300, ml_728, ml_832, ml_65536, q2, mt_uy, e1, Nat.le_refl]
  · refine mt_A_no (k := 1) (t := 1) (r := nI 0) (r2 := nI 0) hR ?_ ?_ ⟨rfl, rfl⟩
    · simp (discharger := omega) only [f_X9_paidBits, f_X9_requireClient, nI_add, mt_mul, nI_clamp, nI_leI, nI_ltI, nI_eq, mt_in_t, mt_b1, mt_b2, mt_b3, mt_b4, mt_l, mt_g, ↓reduceIte, Nat.reduceEqDiff, Nat.reduceLeDiff, ml_0, ml_1, ml_2, ml_3, ml_4, ml_5, ml_6, ml_7, ml_8, ml_9, ml_10, ml_11, ml_12, ml_13, ml_14, ml_16, ml_31, ml_32, ml_40, ml_42, ml_48, ml_50, ml_57, ml_59, ml_60, ml_63, ml_98, ml_100, ml_103, ml_104, ml_105, ml_106, ml_107, ml_108, ml_109, ml_110, ml_111, ml_112, ml_113, ml_114, ml_115, ml_120, ml_127, ml_176, ml_180, ml_200, ml_254, ml_255, ml_256, ml_300, ml_728, ml_832, ml_65536, q1]
    · simp (discharger := omega) only [f_X10_paidBits, f_X10_paidBits_J13, nI_add, mt_mul, nI_clamp, nI_leI, nI_ltI, nI_eq, mt_in_t, mt_b1, mt_b2, mt_b3, mt_b4, mt_l, mt_g, ↓reduceIte, Nat.reduceEqDiff, Nat.reduceLeDiff, ml_0, ml_1, ml_2, ml_3, ml_4, ml_5, ml_6, ml_7, ml_8, ml_9, ml_10, ml_11, ml_12, ml_13, ml_14, ml_16, ml_31, ml_32, ml_40, ml_42, ml_48, ml_50, ml_57, ml_59, ml_60, ml_63, ml_98, ml_100, ml_103, ml_104, ml_105, ml_106, ml_107, ml_108, ml_109, ml_110, ml_111, ml_112, ml_113, ml_114, ml_115, ml_120, ml_127, ml_176, ml_180, ml_200, ml_254, ml_255, ml_256, ml_300, ml_728, ml_832, ml_65536, q2, mt_uy]
theorem mf_wF : ∀ h, h < 181 → 40 ≤ h → (1065353216 ≤ (mf_w h).toNat ∧ (mf_w h).toNat < 1317011456) ∧ mf_u (mf_w h).toNat ≤ 32 * 3 * 2 ^ 149 := by decide +kernel
theorem pc_temperatureBits (hR : mt_R B μ) (x : Int32) : mt_A B Eq mt_e1 (f_X9_temperatureBits μ x) (fun m => f_X10_temperatureBits m x) := by
  obtain ⟨σ, hC, hM, hok⟩ := hR.1
  rcases mt_mac μ μ x with ⟨m, hm, rfl, q1, q2⟩ | ⟨q1, q2⟩
  · have hh := hok.2.2.1 m hm
    have e0 := mc_degrees hC hm (by omega)
    have e1 := mr_warm (mt_M_t (t := 0) hM (by decide)) hm (by omega)
    obtain ⟨⟨f1, f2⟩, f3⟩ := mf_wF (σ (2 + m)) (by omega) hh.1
    have hF : mt_F 3 (mf_w (σ (2 + m))).toNat := ⟨Or.inr f1, f2, f3⟩
    have e2 := mf_bits (μ := μ) hF
    have e3 := mf_itb (μ := fw_u μ 0 18 0 (nI 0)) hF
    rw [mf_ut] at e2 e3
    refine mt_A_ok (r := nI (mf_w (σ (2 + m))).toNat) hR ?_ ?_ rfl
    · simp (discharger := omega) only [f_X9_temperatureBits, f_X9_requireMachine, nI_add, mt_mul, nI_clamp, nI_leI, nI_ltI, nI_eq, mt_in_t, mt_b1, mt_b2, mt_b3, mt_b4, mt_l, mt_g, ↓reduceIte, Nat.reduceEqDiff, Nat.reduceLeDiff, ml_0, ml_1, ml_2, ml_3, ml_4, ml_5, ml_6, ml_7, ml_8, ml_9, ml_10, ml_11, ml_12, ml_13, ml_14, ml_16, ml_31, ml_32, ml_40, ml_42, ml_48, ml_50, ml_57, ml_59, ml_60, ml_63, ml_98, ml_100, ml_103, ml_104, ml_105, ml_106, ml_107, ml_108, ml_109, ml_110, ml_111, ml_112, ml_113, ml_114, ml_115, ml_120, ml_127, ml_176, ml_180, ml_200, ml_254, ml_255, ml_256, ml_300, ml_728, ml_832, ml_65536, q1, e0, e2]
    · simp (discharger := omega) only [f_X10_temperatureBits, f_X10_temperatureBits_J13, nI_add, mt_mul, nI_clamp, nI_leI, nI_ltI, nI_eq, mt_in_t, mt_b1, mt_b2, mt_b3, mt_b4, mt_l, mt_g, ↓reduceIte, Nat.reduceEqDiff, Nat.reduceLeDiff, ml_0, ml_1, ml_2, ml_3, ml_4, ml_5, ml_6, ml_7, ml_8, ml_9, ml_10, ml_11, ml_12, ml_13, ml_14, ml_16, ml_31, ml_32, ml_40, ml_42, ml_48, ml_50, ml_57, ml_59, ml_60, ml_63, ml_98, ml_100, ml_103, ml_104, ml_105, ml_106, ml_107, ml_108, ml_109, ml_110, ml_111, ml_112, ml_113, ml_114, ml_115, ml_120, ml_127, ml_176, ml_180, ml_200, ml_254, ml_255, ml_256, ml_300, ml_728, ml_832, ml_65536, q2, mt_uy, e1, e3, Nat.le_refl]
  · refine mt_A_no (k := 1) (t := 1) (r := nI 0) (r2 := nI 0) hR ?_ ?_ ⟨rfl, rfl⟩
    · simp (discharger := omega) only [f_X9_temperatureBits, f_X9_requireMachine, nI_add, mt_mul, nI_clamp, nI_leI, nI_ltI, nI_eq, mt_in_t, mt_b1, mt_b2, mt_b3, mt_b4, mt_l, mt_g, ↓reduceIte, Nat.reduceEqDiff, Nat.reduceLeDiff, ml_0, ml_1, ml_2, ml_3, ml_4, ml_5, ml_6, ml_7, ml_8, ml_9, ml_10, ml_11, ml_12, ml_13, ml_14, ml_16, ml_31, ml_32, ml_40, ml_42, ml_48, ml_50, ml_57, ml_59, ml_60, ml_63, ml_98, ml_100, ml_103, ml_104, ml_105, ml_106, ml_107, ml_108, ml_109, ml_110, ml_111, ml_112, ml_113, ml_114, ml_115, ml_120, ml_127, ml_176, ml_180, ml_200, ml_254, ml_255, ml_256, ml_300, ml_728, ml_832, ml_65536, q1]
    · simp (discharger := omega) only [f_X10_temperatureBits, f_X10_temperatureBits_J13, nI_add, mt_mul, nI_clamp, nI_leI, nI_ltI, nI_eq, mt_in_t, mt_b1, mt_b2, mt_b3, mt_b4, mt_l, mt_g, ↓reduceIte, Nat.reduceEqDiff, Nat.reduceLeDiff, ml_0, ml_1, ml_2, ml_3, ml_4, ml_5, ml_6, ml_7, ml_8, ml_9, ml_10, ml_11, ml_12, ml_13, ml_14, ml_16, ml_31, ml_32, ml_40, ml_42, ml_48, ml_50, ml_57, ml_59, ml_60, ml_63, ml_98, ml_100, ml_103, ml_104, ml_105, ml_106, ml_107, ml_108, ml_109, ml_110, ml_111, ml_112, ml_113, ml_114, ml_115, ml_120, ml_127, ml_176, ml_180, ml_200, ml_254, ml_255, ml_256, ml_300, ml_728, ml_832, ml_65536, q2, mt_uy]
/-! rankings and shares -/
def ms_fi (p : Nat → Bool) : Nat → Option Nat
  | 0 => none
  | i + 1 => match ms_fi p i with
    | some r => some r
    | none => if p i = true then some i else none
theorem ms_fi_k {p : Nat → Bool} {i r : Nat} (h : ms_fi p i = some r) : ∀ k, ms_fi p (i + k) = some r
  | 0 => h
  | k + 1 => by
    show ms_fi p (i + k + 1) = _
    rw [ms_fi, ms_fi_k h k]
theorem ms_fi_y {p : Nat → Bool} {i n : Nat} (h : ms_fi p i = none) (hp : p i = true) (hn : i < n) : ms_fi p n = some i := by
  have h1 : ms_fi p (i + 1) = some i := by
    rw [ms_fi, h]
    exact if_pos hp
  have := ms_fi_k h1 (n - (i + 1))
  rw [show i + 1 + (n - (i + 1)) = n by omega] at this
  exact this
theorem ms_fi_n {p : Nat → Bool} {i : Nat} (h : ms_fi p i = none) (hp : p i = false) : ms_fi p (i + 1) = none := by
  rw [ms_fi, h]
  exact if_neg (by rw [hp]; decide)
/-- who stands ahead of a garment in the ranking of the dirtiest -/
def ms_ah (σ : Nat → Nat) (a i : Nat) : Nat := mt_sm (fun b => if σ (4 + 6 * b + 4) ≠ 3 ∧ (ms_pc (σ (4 + 6 * a + 3)) < ms_pc (σ (4 + 6 * b + 3)) ∨ (ms_pc (σ (4 + 6 * b + 3)) = ms_pc (σ (4 + 6 * a + 3)) ∧ b < a)) then 1 else 0) i
theorem mc_dirtier {σ : Nat → Nat} (hC : mt_C μ 0 σ) (hk : mt_k σ) {a : Nat} (ha : a < σ 0) : f_X9_dirtierThan μ (nI a) = some (nI (ms_ah σ a (σ 0))) := by
  have h16 := hk.1
  have cn := hC.1
  have e0 := mc_stainsOn hC hk ha
  have b0 := ms_pc_lt _ (hk.2 a ha).2.2.2.1
  have key : f_X9_dirtierThan_L14 μ 1000 (nI a) (nI (ms_pc (σ (4 + 6 * a + 3)))) (nI 0) (nI 0) = some (nI (ms_ah σ a (σ 0))) := by
    refine mt_det (fun n (x : Int32) i => f_X9_dirtierThan_L14 μ n (nI a) (nI (ms_pc (σ (4 + 6 * a + 3)))) x i) (fun i => nI (ms_ah σ a i)) (N := σ 0) ?_ ?_ (n := 1000) (by omega)
    · intro n
      simp (discharger := omega) only [f_X9_dirtierThan_L14, nI_add, mt_mul, nI_clamp, nI_leI, nI_ltI, nI_eq, mt_in_t, mt_b1, mt_b2, mt_b3, mt_b4, mt_l, mt_g, ↓reduceIte, Nat.reduceEqDiff, Nat.reduceLeDiff, ml_0, ml_1, ml_2, ml_3, ml_4, ml_5, ml_6, ml_7, ml_8, ml_9, ml_10, ml_11, ml_12, ml_13, ml_14, ml_16, ml_31, ml_32, ml_40, ml_42, ml_48, ml_50, ml_57, ml_59, ml_60, ml_63, ml_98, ml_100, ml_103, ml_104, ml_105, ml_106, ml_107, ml_108, ml_109, ml_110, ml_111, ml_112, ml_113, ml_114, ml_115, ml_120, ml_127, ml_176, ml_180, ml_200, ml_254, ml_255, ml_256, ml_300, ml_728, ml_832, ml_65536, cn, Nat.le_refl]
    · intro n i hi
      have e1 := mc_stainsOn hC hk hi
      have e4 : μ 0 5 i = nI (σ (4 + 6 * i + 4)) := mt_C_g hC (w := 4) (by decide) hi
      have b1 := ms_pc_lt _ (hk.2 i hi).2.2.2.1
      have b4 := (hk.2 i hi).2.2.2.2
      have hi' : ¬ σ 0 ≤ i := by omega
      have hs : ms_ah σ a (i + 1) = ms_ah σ a i + (if σ (4 + 6 * i + 4) ≠ 3 ∧ (ms_pc (σ (4 + 6 * a + 3)) < ms_pc (σ (4 + 6 * i + 3)) ∨ (ms_pc (σ (4 + 6 * i + 3)) = ms_pc (σ (4 + 6 * a + 3)) ∧ i < a)) then 1 else 0) := rfl
      by_cases p1 : ms_pc (σ (4 + 6 * a + 3)) < ms_pc (σ (4 + 6 * i + 3))
      · by_cases p4 : σ (4 + 6 * i + 4) = 3
        · rw [if_neg (fun z => z.1 p4)] at hs
          simp (discharger := omega) only [f_X9_dirtierThan_L14, f_X9_dirtierThan_J55, f_X9_dirtierThan_J59, f_X9_dirtierThan_J60, nI_add, mt_mul, nI_clamp, nI_leI, nI_ltI, nI_eq, mt_in_t, mt_b1, mt_b2, mt_b3, mt_b4, mt_l, mt_g, ↓reduceIte, Nat.reduceEqDiff, Nat.reduceLeDiff, ml_0, ml_1, ml_2, ml_3, ml_4, ml_5, ml_6, ml_7, ml_8, ml_9, ml_10, ml_11, ml_12, ml_13, ml_14, ml_16, ml_31, ml_32, ml_40, ml_42, ml_48, ml_50, ml_57, ml_59, ml_60, ml_63, ml_98, ml_100, ml_103, ml_104, ml_105, ml_106, ml_107, ml_108, ml_109, ml_110, ml_111, ml_112, ml_113, ml_114, ml_115, ml_120, ml_127, ml_176, ml_180, ml_200, ml_254, ml_255, ml_256, ml_300, ml_728, ml_832, ml_65536, cn, hi', e1, e4, p1, p4, hs, Nat.add_zero]
        · rw [if_pos ⟨p4, Or.inl p1⟩] at hs
          simp (discharger := omega) only [f_X9_dirtierThan_L14, f_X9_dirtierThan_J55, f_X9_dirtierThan_J59, f_X9_dirtierThan_J60, nI_add, mt_mul, nI_clamp, nI_leI, nI_ltI, nI_eq, mt_in_t, mt_b1, mt_b2, mt_b3, mt_b4, mt_l, mt_g, ↓reduceIte, Nat.reduceEqDiff, Nat.reduceLeDiff, ml_0, ml_1, ml_2, ml_3, ml_4, ml_5, ml_6, ml_7, ml_8, ml_9, ml_10, ml_11, ml_12, ml_13, ml_14, ml_16, ml_31, ml_32, ml_40, ml_42, ml_48, ml_50, ml_57, ml_59, ml_60, ml_63, ml_98, ml_100, ml_103, ml_104, ml_105, ml_106, ml_107, ml_108, ml_109, ml_110, ml_111, ml_112, ml_113, ml_114, ml_115, ml_120, ml_127, ml_176, ml_180, ml_200, ml_254, ml_255, ml_256, ml_300, ml_728, ml_832, ml_65536, cn, hi', e1, e4, p1, p4, hs]
      · by_cases p2 : ms_pc (σ (4 + 6 * i + 3)) = ms_pc (σ (4 + 6 * a + 3))
        · by_cases p3 : a ≤ i
          · rw [if_neg (fun z => by omega)] at hs
            simp (discharger := omega) only [f_X9_dirtierThan_L14, f_X9_dirtierThan_J55, f_X9_dirtierThan_J59, f_X9_dirtierThan_J60, nI_add, mt_mul, nI_clamp, nI_leI, nI_ltI, nI_eq, mt_in_t, mt_b1, mt_b2, mt_b3, mt_b4, mt_l, mt_g, ↓reduceIte, Nat.reduceEqDiff, Nat.reduceLeDiff, ml_0, ml_1, ml_2, ml_3, ml_4, ml_5, ml_6, ml_7, ml_8, ml_9, ml_10, ml_11, ml_12, ml_13, ml_14, ml_16, ml_31, ml_32, ml_40, ml_42, ml_48, ml_50, ml_57, ml_59, ml_60, ml_63, ml_98, ml_100, ml_103, ml_104, ml_105, ml_106, ml_107, ml_108, ml_109, ml_110, ml_111, ml_112, ml_113, ml_114, ml_115, ml_120, ml_127, ml_176, ml_180, ml_200, ml_254, ml_255, ml_256, ml_300, ml_728, ml_832, ml_65536, cn, hi', e1, e4, p1, p2, p3, hs, Nat.add_zero, ite_self, Nat.lt_irrefl]
          · by_cases p4 : σ (4 + 6 * i + 4) = 3
            · rw [if_neg (fun z => z.1 p4)] at hs
              simp (discharger := omega) only [f_X9_dirtierThan_L14, f_X9_dirtierThan_J55, f_X9_dirtierThan_J59, f_X9_dirtierThan_J60, nI_add, mt_mul, nI_clamp, nI_leI, nI_ltI, nI_eq, mt_in_t, mt_b1, mt_b2, mt_b3, mt_b4, mt_l, mt_g, ↓reduceIte, Nat.reduceEqDiff, Nat.reduceLeDiff, ml_0, ml_1, ml_2, ml_3, ml_4, ml_5, ml_6, ml_7, ml_8, ml_9, ml_10, ml_11, ml_12, ml_13, ml_14, ml_16, ml_31, ml_32, ml_40, ml_42, ml_48, ml_50, ml_57, ml_59, ml_60, ml_63, ml_98, ml_100, ml_103, ml_104, ml_105, ml_106, ml_107, ml_108, ml_109, ml_110, ml_111, ml_112, ml_113, ml_114, ml_115, ml_120, ml_127, ml_176, ml_180, ml_200, ml_254, ml_255, ml_256, ml_300, ml_728, ml_832, ml_65536, cn, hi', e1, e4, p1, p2, p3, p4, hs, Nat.add_zero, Nat.lt_irrefl]
            · rw [if_pos ⟨p4, Or.inr ⟨p2, by omega⟩⟩] at hs
              simp (discharger := omega) only [f_X9_dirtierThan_L14, f_X9_dirtierThan_J55, f_X9_dirtierThan_J59, f_X9_dirtierThan_J60, nI_add, mt_mul, nI_clamp, nI_leI, nI_ltI, nI_eq, mt_in_t, mt_b1, mt_b2, mt_b3, mt_b4, mt_l, mt_g, ↓reduceIte, Nat.reduceEqDiff, Nat.reduceLeDiff, ml_0, ml_1, ml_2, ml_3, ml_4, ml_5, ml_6, ml_7, ml_8, ml_9, ml_10, ml_11, ml_12, ml_13, ml_14, ml_16, ml_31, ml_32, ml_40, ml_42, ml_48, ml_50, ml_57, ml_59, ml_60, ml_63, ml_98, ml_100, ml_103, ml_104, ml_105, ml_106, ml_107, ml_108, ml_109, ml_110, ml_111, ml_112, ml_113, ml_114, ml_115, ml_120, ml_127, ml_176, ml_180, ml_200, ml_254, ml_255, ml_256, ml_300, ml_728, ml_832, ml_65536, cn, hi', e1, e4, p1, p2, p3, p4, hs, Nat.lt_irrefl]
        · rw [if_neg (fun z => by omega)] at hs
          simp (discharger := omega) only [f_X9_dirtierThan_L14, f_X9_dirtierThan_J55, f_X9_dirtierThan_J59, f_X9_dirtierThan_J60, nI_add, mt_mul, nI_clamp, nI_leI, nI_ltI, nI_eq, mt_in_t, mt_b1, mt_b2, mt_b3, mt_b4, mt_l, mt_g, ↓reduceIte, Nat.reduceEqDiff, Nat.reduceLeDiff, ml_0, ml_1, ml_2, ml_3, ml_4, ml_5, ml_6, ml_7, ml_8, ml_9, ml_10, ml_11, ml_12, ml_13, ml_14, ml_16, ml_31, ml_32, ml_40, ml_42, ml_48, ml_50, ml_57, ml_59, ml_60, ml_63, ml_98, ml_100, ml_103, ml_104, ml_105, ml_106, ml_107, ml_108, ml_109, ml_110, ml_111, ml_112, ml_113, ml_114, ml_115, ml_120, ml_127, ml_176, ml_180, ml_200, ml_254, ml_255, ml_256, ml_300, ml_728, ml_832, ml_65536, cn, hi', e1, e4, p1, p2, hs, Nat.add_zero, ite_self]
  simp (discharger := omega) only [f_X9_dirtierThan, nI_add, mt_mul, nI_clamp, nI_leI, nI_ltI, nI_eq, mt_in_t, mt_b1, mt_b2, mt_b3, mt_b4, mt_l, mt_g, ↓reduceIte, Nat.reduceEqDiff, Nat.reduceLeDiff, ml_0, ml_1, ml_2, ml_3, ml_4, ml_5, ml_6, ml_7, ml_8, ml_9, ml_10, ml_11, ml_12, ml_13, ml_14, ml_16, ml_31, ml_32, ml_40, ml_42, ml_48, ml_50, ml_57, ml_59, ml_60, ml_63, ml_98, ml_100, ml_103, ml_104, ml_105, ml_106, ml_107, ml_108, ml_109, ml_110, ml_111, ml_112, ml_113, ml_114, ml_115, ml_120, ml_127, ml_176, ml_180, ml_200, ml_254, ml_255, ml_256, ml_300, ml_728, ml_832, ml_65536, e0, key]
def ms_dp (σ : Nat → Nat) (x : Int32) (a : Nat) : Bool := decide (σ (4 + 6 * a + 4) ≠ 3 ∧ nI (ms_ah σ a (σ 0)) = x)
theorem mc_dirtiest {σ : Nat → Nat} (hC : mt_C μ 0 σ) (hk : mt_k σ) (x : Int32) : f_X9_dirtiest μ x = some (match ms_fi (ms_dp σ x) (σ 0) with | some a => (μ, nI a, 0) | none => (μ, nI 0, 5)) := by
  have h16 := hk.1
  have cn := hC.1
  unfold f_X9_dirtiest
  refine mt_while (L := fun n (_ : Unit) i => f_X9_dirtiest_L2 n μ x i) (I := fun i _ => ms_fi (ms_dp σ x) i = none) (P := fun r => r = some (match ms_fi (ms_dp σ x) (σ 0) with | some a => (μ, nI a, 0) | none => (μ, nI 0, 5))) (N := σ 0) ?_ ?_ (σ 0) 1000 () 0 (by omega) (by omega) rfl
  · intro n _ h
    rw [h]
    simp (discharger := omega) only [f_X9_dirtiest_L2, nI_add, mt_mul, nI_clamp, nI_leI, nI_ltI, nI_eq, mt_in_t, mt_b1, mt_b2, mt_b3, mt_b4, mt_l, mt_g, ↓reduceIte, Nat.reduceEqDiff, Nat.reduceLeDiff, ml_0, ml_1, ml_2, ml_3, ml_4, ml_5, ml_6, ml_7, ml_8, ml_9, ml_10, ml_11, ml_12, ml_13, ml_14, ml_16, ml_31, ml_32, ml_40, ml_42, ml_48, ml_50, ml_57, ml_59, ml_60, ml_63, ml_98, ml_100, ml_103, ml_104, ml_105, ml_106, ml_107, ml_108, ml_109, ml_110, ml_111, ml_112, ml_113, ml_114, ml_115, ml_120, ml_127, ml_176, ml_180, ml_200, ml_254, ml_255, ml_256, ml_300, ml_728, ml_832, ml_65536, cn, Nat.le_refl]
  · intro n _ i hi h
    have e := mc_dirtier hC hk hi
    have e4 : μ 0 5 i = nI (σ (4 + 6 * i + 4)) := mt_C_g hC (w := 4) (by decide) hi
    have b4 := (hk.2 i hi).2.2.2.2
    have hi' : ¬ σ 0 ≤ i := by omega
    by_cases p4 : σ (4 + 6 * i + 4) = 3
    · left
      refine ⟨(), ms_fi_n h (decide_eq_false (fun z => z.1 p4)), ?_⟩
      simp (discharger := omega) only [f_X9_dirtiest_L2, nI_add, mt_mul, nI_clamp, nI_leI, nI_ltI, nI_eq, mt_in_t, mt_b1, mt_b2, mt_b3, mt_b4, mt_l, mt_g, ↓reduceIte, Nat.reduceEqDiff, Nat.reduceLeDiff, ml_0, ml_1, ml_2, ml_3, ml_4, ml_5, ml_6, ml_7, ml_8, ml_9, ml_10, ml_11, ml_12, ml_13, ml_14, ml_16, ml_31, ml_32, ml_40, ml_42, ml_48, ml_50, ml_57, ml_59, ml_60, ml_63, ml_98, ml_100, ml_103, ml_104, ml_105, ml_106, ml_107, ml_108, ml_109, ml_110, ml_111, ml_112, ml_113, ml_114, ml_115, ml_120, ml_127, ml_176, ml_180, ml_200, ml_254, ml_255, ml_256, ml_300, ml_728, ml_832, ml_65536, cn, hi', e4, p4]
    · by_cases p : nI (ms_ah σ i (σ 0)) = x
      · right
        rw [ms_fi_y h (decide_eq_true ⟨p4, p⟩) hi]
        simp (discharger := omega) only [f_X9_dirtiest_L2, nI_add, mt_mul, nI_clamp, nI_leI, nI_ltI, nI_eq, mt_in_t, mt_b1, mt_b2, mt_b3, mt_b4, mt_l, mt_g, ↓reduceIte, Nat.reduceEqDiff, Nat.reduceLeDiff, ml_0, ml_1, ml_2, ml_3, ml_4, ml_5, ml_6, ml_7, ml_8, ml_9, ml_10, ml_11, ml_12, ml_13, ml_14, ml_16, ml_31, ml_32, ml_40, ml_42, ml_48, ml_50, ml_57, ml_59, ml_60, ml_63, ml_98, ml_100, ml_103, ml_104, ml_105, ml_106, ml_107, ml_108, ml_109, ml_110, ml_111, ml_112, ml_113, ml_114, ml_115, ml_120, ml_127, ml_176, ml_180, ml_200, ml_254, ml_255, ml_256, ml_300, ml_728, ml_832, ml_65536, cn, hi', e4, p4, e, p]
      · left
        refine ⟨(), ms_fi_n h (decide_eq_false (fun z => p z.2)), ?_⟩
        simp (discharger := omega) only [f_X9_dirtiest_L2, nI_add, mt_mul, nI_clamp, nI_leI, nI_ltI, nI_eq, mt_in_t, mt_b1, mt_b2, mt_b3, mt_b4, mt_l, mt_g, ↓reduceIte, Nat.reduceEqDiff, Nat.reduceLeDiff, ml_0, ml_1, ml_2, ml_3, ml_4, ml_5, ml_6, ml_7, ml_8, ml_9, ml_10, ml_11, ml_12, ml_13, ml_14, ml_16, ml_31, ml_32, ml_40, ml_42, ml_48, ml_50, ml_57, ml_59, ml_60, ml_63, ml_98, ml_100, ml_103, ml_104, ml_105, ml_106, ml_107, ml_108, ml_109, ml_110, ml_111, ml_112, ml_113, ml_114, ml_115, ml_120, ml_127, ml_176, ml_180, ml_200, ml_254, ml_255, ml_256, ml_300, ml_728, ml_832, ml_65536, cn, hi', e4, p4, e, p]
theorem mt_sgn : ∀ a, a < 9 → ∀ b, b < 9 → ((nI 0 < nI a - nI b) ↔ b < a) ∧ ((nI a - nI b = nI 0) ↔ a = b) := by decide +kernel
theorem mr_dirtiest {σ : Nat → Nat} (hM : mt_M μ 19 0 σ) (hk : mt_k σ) (x : Int32) : f_X10_dirtiest_L7 1000 μ x (nI 0) = some (match ms_fi (ms_dp σ x) (σ 0) with | some a => (μ, nI a) | none => (fw_u μ 0 18 0 (nI 1), nI 0)) := by
  have h16 := hk.1
  have cn := mt_at hM (i := 0) (by decide)
  refine mt_while (L := fun n (_ : Unit) i => f_X10_dirtiest_L7 n μ x i) (I := fun i _ => ms_fi (ms_dp σ x) i = none) (P := fun r => r = some (match ms_fi (ms_dp σ x) (σ 0) with | some a => (μ, nI a) | none => (fw_u μ 0 18 0 (nI 1), nI 0))) (N := σ 0) ?_ ?_ (σ 0) 1000 () 0 (by omega) (by omega) rfl
  · intro n _ h
    rw [h]
    simp (discharger := omega) only [f_X10_dirtiest_L7, f_X10_fails, nI_add, mt_mul, nI_clamp, nI_leI, nI_ltI, nI_eq, mt_in_t, mt_b1, mt_b2, mt_b3, mt_b4, mt_l, mt_g, ↓reduceIte, Nat.reduceEqDiff, Nat.reduceLeDiff, ml_0, ml_1, ml_2, ml_3, ml_4, ml_5, ml_6, ml_7, ml_8, ml_9, ml_10, ml_11, ml_12, ml_13, ml_14, ml_16, ml_31, ml_32, ml_40, ml_42, ml_48, ml_50, ml_57, ml_59, ml_60, ml_63, ml_98, ml_100, ml_103, ml_104, ml_105, ml_106, ml_107, ml_108, ml_109, ml_110, ml_111, ml_112, ml_113, ml_114, ml_115, ml_120, ml_127, ml_176, ml_180, ml_200, ml_254, ml_255, ml_256, ml_300, ml_728, ml_832, ml_65536, cn, Nat.le_refl]
  · intro n _ a ha h
    have a4 := mr_of hM (g := a) (w := 4) (by omega) (by decide)
    have a3 := mr_of hM (g := a) (w := 3) (by omega) (by decide)
    have b4 := (hk.2 a ha).2.2.2.2
    have b3 := (hk.2 a ha).2.2.2.1
    have c3 := ms_pc_lt _ b3
    have ha' : ¬ σ 0 ≤ a := by omega
    have key : f_X10_dirtiest_L33 (f_X10_dirtiest_L7 n) 1000 μ x (nI a) (nI 0) (nI 0) = (if nI (ms_ah σ a (σ 0)) = x then some (μ, nI a) else f_X10_dirtiest_L7 n μ x (nI (a + 1))) := by
      refine mt_det (fun n' (y : Int32) i => f_X10_dirtiest_L33 (f_X10_dirtiest_L7 n) n' μ x (nI a) y i) (fun i => nI (ms_ah σ a i)) (N := σ 0) ?_ ?_ (n := 1000) (by omega)
      · intro n'
        simp (discharger := omega) only [f_X10_dirtiest_L33, nI_add, mt_mul, nI_clamp, nI_leI, nI_ltI, nI_eq, mt_in_t, mt_b1, mt_b2, mt_b3, mt_b4, mt_l, mt_g, ↓reduceIte, Nat.reduceEqDiff, Nat.reduceLeDiff, ml_0, ml_1, ml_2, ml_3, ml_4, ml_5, ml_6, ml_7, ml_8, ml_9, ml_10, ml_11, ml_12, ml_13, ml_14, ml_16, ml_31, ml_32, ml_40, ml_42, ml_48, ml_50, ml_57, ml_59, ml_60, ml_63, ml_98, ml_100, ml_103, ml_104, ml_105, ml_106, ml_107, ml_108, ml_109, ml_110, ml_111, ml_112, ml_113, ml_114, ml_115, ml_120, ml_127, ml_176, ml_180, ml_200, ml_254, ml_255, ml_256, ml_300, ml_728, ml_832, ml_65536, cn, Nat.le_refl]
      · intro n' i hi
        have i4 := mr_of hM (g := i) (w := 4) (by omega) (by decide)
        have i3 := mr_of hM (g := i) (w := 3) (by omega) (by decide)
        have d4 := (hk.2 i hi).2.2.2.2
        have d3 := (hk.2 i hi).2.2.2.1
        have d5 := ms_pc_lt _ d3
        have hi' : ¬ σ 0 ≤ i := by omega
        obtain ⟨s1, s2⟩ := mt_sgn (ms_pc (σ (4 + 6 * i + 3))) (by omega) (ms_pc (σ (4 + 6 * a + 3))) (by omega)
        have hs : ms_ah σ a (i + 1) = ms_ah σ a i + (if σ (4 + 6 * i + 4) ≠ 3 ∧ (ms_pc (σ (4 + 6 * a + 3)) < ms_pc (σ (4 + 6 * i + 3)) ∨ (ms_pc (σ (4 + 6 * i + 3)) = ms_pc (σ (4 + 6 * a + 3)) ∧ i < a)) then 1 else 0) := rfl
        by_cases p4 : σ (4 + 6 * i + 4) = 3
        · rw [if_neg (fun z => z.1 p4)] at hs
          simp (discharger := omega) only [f_X10_dirtiest_L33, f_X10_isHere, nI_add, mt_mul, nI_clamp, nI_leI, nI_ltI, nI_eq, mt_in_t, mt_b1, mt_b2, mt_b3, mt_b4, mt_l, mt_g, ↓reduceIte, Nat.reduceEqDiff, Nat.reduceLeDiff, ml_0, ml_1, ml_2, ml_3, ml_4, ml_5, ml_6, ml_7, ml_8, ml_9, ml_10, ml_11, ml_12, ml_13, ml_14, ml_16, ml_31, ml_32, ml_40, ml_42, ml_48, ml_50, ml_57, ml_59, ml_60, ml_63, ml_98, ml_100, ml_103, ml_104, ml_105, ml_106, ml_107, ml_108, ml_109, ml_110, ml_111, ml_112, ml_113, ml_114, ml_115, ml_120, ml_127, ml_176, ml_180, ml_200, ml_254, ml_255, ml_256, ml_300, ml_728, ml_832, ml_65536, cn, hi', i3, i4, a3, mr_bits, p4, hs]
        · by_cases p1 : ms_pc (σ (4 + 6 * a + 3)) < ms_pc (σ (4 + 6 * i + 3))
          · rw [if_pos ⟨p4, Or.inl p1⟩] at hs
            simp (discharger := omega) only [f_X10_dirtiest_L33, f_X10_isHere, nI_add, mt_mul, nI_clamp, nI_leI, nI_ltI, nI_eq, mt_in_t, mt_b1, mt_b2, mt_b3, mt_b4, mt_l, mt_g, ↓reduceIte, Nat.reduceEqDiff, Nat.reduceLeDiff, ml_0, ml_1, ml_2, ml_3, ml_4, ml_5, ml_6, ml_7, ml_8, ml_9, ml_10, ml_11, ml_12, ml_13, ml_14, ml_16, ml_31, ml_32, ml_40, ml_42, ml_48, ml_50, ml_57, ml_59, ml_60, ml_63, ml_98, ml_100, ml_103, ml_104, ml_105, ml_106, ml_107, ml_108, ml_109, ml_110, ml_111, ml_112, ml_113, ml_114, ml_115, ml_120, ml_127, ml_176, ml_180, ml_200, ml_254, ml_255, ml_256, ml_300, ml_728, ml_832, ml_65536, cn, hi', i3, i4, a3, mr_bits, p4, s1, p1, hs]
          · by_cases p2 : ms_pc (σ (4 + 6 * i + 3)) = ms_pc (σ (4 + 6 * a + 3))
            · have t1 : ¬ nI 0 < nI (ms_pc (σ (4 + 6 * i + 3))) - nI (ms_pc (σ (4 + 6 * a + 3))) := fun z => p1 (s1.mp z)
              have t2 := s2.mpr p2
              by_cases p3 : a ≤ i
              · rw [if_neg (fun z => by omega)] at hs
                simp (discharger := omega) only [f_X10_dirtiest_L33, f_X10_isHere, nI_add, mt_mul, nI_clamp, nI_leI, nI_ltI, nI_eq, mt_in_t, mt_b1, mt_b2, mt_b3, mt_b4, mt_l, mt_g, ↓reduceIte, Nat.reduceEqDiff, Nat.reduceLeDiff, ml_0, ml_1, ml_2, ml_3, ml_4, ml_5, ml_6, ml_7, ml_8, ml_9, ml_10, ml_11, ml_12, ml_13, ml_14, ml_16, ml_31, ml_32, ml_40, ml_42, ml_48, ml_50, ml_57, ml_59, ml_60, ml_63, ml_98, ml_100, ml_103, ml_104, ml_105, ml_106, ml_107, ml_108, ml_109, ml_110, ml_111, ml_112, ml_113, ml_114, ml_115, ml_120, ml_127, ml_176, ml_180, ml_200, ml_254, ml_255, ml_256, ml_300, ml_728, ml_832, ml_65536, cn, hi', i3, i4, a3, mr_bits, p4, t1, t2, p3, hs, Nat.lt_irrefl]
              · rw [if_pos ⟨p4, Or.inr ⟨p2, by omega⟩⟩] at hs
                simp (discharger := omega) only [f_X10_dirtiest_L33, f_X10_isHere, nI_add, mt_mul, nI_clamp, nI_leI, nI_ltI, nI_eq, mt_in_t, mt_b1, mt_b2, mt_b3, mt_b4, mt_l, mt_g, ↓reduceIte, Nat.reduceEqDiff, Nat.reduceLeDiff, ml_0, ml_1, ml_2, ml_3, ml_4, ml_5, ml_6, ml_7, ml_8, ml_9, ml_10, ml_11, ml_12, ml_13, ml_14, ml_16, ml_31, ml_32, ml_40, ml_42, ml_48, ml_50, ml_57, ml_59, ml_60, ml_63, ml_98, ml_100, ml_103, ml_104, ml_105, ml_106, ml_107, ml_108, ml_109, ml_110, ml_111, ml_112, ml_113, ml_114, ml_115, ml_120, ml_127, ml_176, ml_180, ml_200, ml_254, ml_255, ml_256, ml_300, ml_728, ml_832, ml_65536, cn, hi', i3, i4, a3, mr_bits, p4, t1, t2, p3, hs, Nat.lt_irrefl]
            · rw [if_neg (fun z => by omega)] at hs
              simp (discharger := omega) only [f_X10_dirtiest_L33, f_X10_isHere, nI_add, mt_mul, nI_clamp, nI_leI, nI_ltI, nI_eq, mt_in_t, mt_b1, mt_b2, mt_b3, mt_b4, mt_l, mt_g, ↓reduceIte, Nat.reduceEqDiff, Nat.reduceLeDiff, ml_0, ml_1, ml_2, ml_3, ml_4, ml_5, ml_6, ml_7, ml_8, ml_9, ml_10, ml_11, ml_12, ml_13, ml_14, ml_16, ml_31, ml_32, ml_40, ml_42, ml_48, ml_50, ml_57, ml_59, ml_60, ml_63, ml_98, ml_100, ml_103, ml_104, ml_105, ml_106, ml_107, ml_108, ml_109, ml_110, ml_111, ml_112, ml_113, ml_114, ml_115, ml_120, ml_127, ml_176, ml_180, ml_200, ml_254, ml_255, ml_256, ml_300, ml_728, ml_832, ml_65536, cn, hi', i3, i4, a3, mr_bits, p4, s1, s2, p1, p2, hs]
    by_cases p4 : σ (4 + 6 * a + 4) = 3
    · left
      refine ⟨(), ms_fi_n h (decide_eq_false (fun z => z.1 p4)), ?_⟩
      simp (discharger := omega) only [f_X10_dirtiest_L7, f_X10_isHere, nI_add, mt_mul, nI_clamp, nI_leI, nI_ltI, nI_eq, mt_in_t, mt_b1, mt_b2, mt_b3, mt_b4, mt_l, mt_g, ↓reduceIte, Nat.reduceEqDiff, Nat.reduceLeDiff, ml_0, ml_1, ml_2, ml_3, ml_4, ml_5, ml_6, ml_7, ml_8, ml_9, ml_10, ml_11, ml_12, ml_13, ml_14, ml_16, ml_31, ml_32, ml_40, ml_42, ml_48, ml_50, ml_57, ml_59, ml_60, ml_63, ml_98, ml_100, ml_103, ml_104, ml_105, ml_106, ml_107, ml_108, ml_109, ml_110, ml_111, ml_112, ml_113, ml_114, ml_115, ml_120, ml_127, ml_176, ml_180, ml_200, ml_254, ml_255, ml_256, ml_300, ml_728, ml_832, ml_65536, cn, ha', a4, p4]
    · by_cases p : nI (ms_ah σ a (σ 0)) = x
      · right
        rw [if_pos p] at key
        rw [ms_fi_y h (decide_eq_true ⟨p4, p⟩) ha]
        simp (discharger := omega) only [f_X10_dirtiest_L7, f_X10_isHere, nI_add, mt_mul, nI_clamp, nI_leI, nI_ltI, nI_eq, mt_in_t, mt_b1, mt_b2, mt_b3, mt_b4, mt_l, mt_g, ↓reduceIte, Nat.reduceEqDiff, Nat.reduceLeDiff, ml_0, ml_1, ml_2, ml_3, ml_4, ml_5, ml_6, ml_7, ml_8, ml_9, ml_10, ml_11, ml_12, ml_13, ml_14, ml_16, ml_31, ml_32, ml_40, ml_42, ml_48, ml_50, ml_57, ml_59, ml_60, ml_63, ml_98, ml_100, ml_103, ml_104, ml_105, ml_106, ml_107, ml_108, ml_109, ml_110, ml_111, ml_112, ml_113, ml_114, ml_115, ml_120, ml_127, ml_176, ml_180, ml_200, ml_254, ml_255, ml_256, ml_300, ml_728, ml_832, ml_65536, cn, ha', a4, p4, key]
      · left
        rw [if_neg p] at key
        refine ⟨(), ms_fi_n h (decide_eq_false (fun z => p z.2)), ?_⟩
        simp (discharger := omega) only [f_X10_dirtiest_L7, f_X10_isHere, nI_add, mt_mul, nI_clamp, nI_leI, nI_ltI, nI_eq, mt_in_t, mt_b1, mt_b2, mt_b3, mt_b4, mt_l, mt_g, ↓reduceIte, Nat.reduceEqDiff, Nat.reduceLeDiff, ml_0, ml_1, ml_2, ml_3, ml_4, ml_5, ml_6, ml_7, ml_8, ml_9, ml_10, ml_11, ml_12, ml_13, ml_14, ml_16, ml_31, ml_32, ml_40, ml_42, ml_48, ml_50, ml_57, ml_59, ml_60, ml_63, ml_98, ml_100, ml_103, ml_104, ml_105, ml_106, ml_107, ml_108, ml_109, ml_110, ml_111, ml_112, ml_113, ml_114, ml_115, ml_120, ml_127, ml_176, ml_180, ml_200, ml_254, ml_255, ml_256, ml_300, ml_728, ml_832, ml_65536, cn, ha', a4, p4, key]
def mt_e5 (k t : Nat) : Prop := k = 5 ∧ t = 1
theorem mt_uu {μ : fw_M} {a b : Int32} : fw_u (fw_u μ 0 18 0 a) 0 18 0 b = fw_u μ 0 18 0 b := by
  funext j f i
  rw [mt_ua, mt_ua, mt_ua]
  split <;> rfl
theorem pc_dirtiest (hR : mt_R B μ) (x : Int32) : mt_A B Eq mt_e5 (f_X9_dirtiest μ x) (fun m => f_X10_dirtiest m x) := by
  obtain ⟨σ, hC, hM, hok⟩ := hR.1
  have hk := hok.1
  have e0 := mc_dirtiest hC hk x
  have e1 := mr_dirtiest (mt_M_t (t := 0) hM (by decide)) hk x
  cases hf : ms_fi (ms_dp σ x) (σ 0) with
  | some a =>
    rw [hf] at e0 e1
    refine mt_A_ok (r := nI a) (r2 := nI a) hR e0 ?_ rfl
    simp (discharger := omega) only [f_X10_dirtiest, nI_add, mt_mul, nI_clamp, nI_leI, nI_ltI, nI_eq, mt_in_t, mt_b1, mt_b2, mt_b3, mt_b4, mt_l, mt_g, ↓reduceIte, Nat.reduceEqDiff, Nat.reduceLeDiff, ml_0, ml_1, ml_2, ml_3, ml_4, ml_5, ml_6, ml_7, ml_8, ml_9, ml_10, ml_11, ml_12, ml_13, ml_14, ml_16, ml_31, ml_32, ml_40, ml_42, ml_48, ml_50, ml_57, ml_59, ml_60, ml_63, ml_98, ml_100, ml_103, ml_104, ml_105, ml_106, ml_107, ml_108, ml_109, ml_110, ml_111, ml_112, ml_113, ml_114, ml_115, ml_120, ml_127, ml_176, ml_180, ml_200, ml_254, ml_255, ml_256, ml_300, ml_728, ml_832, ml_65536, e1]
  | none =>
    rw [hf] at e0 e1
    refine mt_A_no (k := 5) (t := 1) (r := nI 0) (r2 := nI 0) hR e0 ?_ ⟨rfl, rfl⟩
    simp (discharger := omega) only [f_X10_dirtiest, nI_add, mt_mul, nI_clamp, nI_leI, nI_ltI, nI_eq, mt_in_t, mt_b1, mt_b2, mt_b3, mt_b4, mt_l, mt_g, ↓reduceIte, Nat.reduceEqDiff, Nat.reduceLeDiff, ml_0, ml_1, ml_2, ml_3, ml_4, ml_5, ml_6, ml_7, ml_8, ml_9, ml_10, ml_11, ml_12, ml_13, ml_14, ml_16, ml_31, ml_32, ml_40, ml_42, ml_48, ml_50, ml_57, ml_59, ml_60, ml_63, ml_98, ml_100, ml_103, ml_104, ml_105, ml_106, ml_107, ml_108, ml_109, ml_110, ml_111, ml_112, ml_113, ml_114, ml_115, ml_120, ml_127, ml_176, ml_180, ml_200, ml_254, ml_255, ml_256, ml_300, ml_728, ml_832, ml_65536, e1, mt_uu]
/-- who stands ahead of a client in the ranking of the spenders -/
abbrev ms_g1 (σ : Nat → Nat) (b a : Nat) : Prop := nI 0 < Op.cmpValue (FP.fcmp (nI (σ (100 + b))).toUInt32 (nI (σ (100 + a))).toUInt32) CmpOp.l
abbrev ms_g2 (σ : Nat → Nat) (b a : Nat) : Prop := Op.cmpValue (FP.fcmp (nI (σ (100 + b))).toUInt32 (nI (σ (100 + a))).toUInt32) CmpOp.l = nI 0
def ms_sa (σ : Nat → Nat) (a i : Nat) : Nat := mt_sm (fun b => if ms_g1 σ b a then 1 else if ms_g2 σ b a then (if a ≤ b then 0 else 1) else 0) i
def ms_sq (σ : Nat → Nat) (x : Int32) (a : Nat) : Bool := decide (nI (ms_sa σ a 4) = x)
theorem mc_spends {σ : Nat → Nat} (hC : mt_C μ 0 σ) {a : Nat} (ha : a < 4) : f_X9_spendingMoreThan μ (nI a) = some (nI (ms_sa σ a 4)) := by
  have e0 := hC.2.2.2.1 a ha
  have key : f_X9_spendingMoreThan_L15 μ 1000 (nI a) (nI (σ (100 + a))).toUInt32 (nI 0) (nI 0) = some (nI (ms_sa σ a 4)) := by
    refine mt_det (fun n (x : Int32) i => f_X9_spendingMoreThan_L15 μ n (nI a) (nI (σ (100 + a))).toUInt32 x i) (fun i => nI (ms_sa σ a i)) (N := 4) ?_ ?_ (n := 1000) (by omega)
    · intro n
      simp (discharger := omega) only [f_X9_spendingMoreThan_L15, nI_add, mt_mul, nI_clamp, nI_leI, nI_ltI, nI_eq, mt_in_t, mt_b1, mt_b2, mt_b3, mt_b4, mt_l, mt_g, ↓reduceIte, Nat.reduceEqDiff, Nat.reduceLeDiff, ml_0, ml_1, ml_2, ml_3, ml_4, ml_5, ml_6, ml_7, ml_8, ml_9, ml_10, ml_11, ml_12, ml_13, ml_14, ml_16, ml_31, ml_32, ml_40, ml_42, ml_48, ml_50, ml_57, ml_59, ml_60, ml_63, ml_98, ml_100, ml_103, ml_104, ml_105, ml_106, ml_107, ml_108, ml_109, ml_110, ml_111, ml_112, ml_113, ml_114, ml_115, ml_120, ml_127, ml_176, ml_180, ml_200, ml_254, ml_255, ml_256, ml_300, ml_728, ml_832, ml_65536, Nat.le_refl]
    · intro n i hi
      have e1 := hC.2.2.2.1 i hi
      have hi' : ¬ 4 ≤ i := by omega
      have hs : ms_sa σ a (i + 1) = ms_sa σ a i + (if ms_g1 σ i a then 1 else if ms_g2 σ i a then (if a ≤ i then 0 else 1) else 0) := rfl
      by_cases p1 : nI 0 < Op.cmpValue (FP.fcmp (nI (σ (100 + i))).toUInt32 (nI (σ (100 + a))).toUInt32) CmpOp.l
      · rw [if_pos p1] at hs
        simp (discharger := omega) only [f_X9_spendingMoreThan_L15, nI_add, mt_mul, nI_clamp, nI_leI, nI_ltI, nI_eq, mt_in_t, mt_b1, mt_b2, mt_b3, mt_b4, mt_l, mt_g, ↓reduceIte, Nat.reduceEqDiff, Nat.reduceLeDiff, ml_0, ml_1, ml_2, ml_3, ml_4, ml_5, ml_6, ml_7, ml_8, ml_9, ml_10, ml_11, ml_12, ml_13, ml_14, ml_16, ml_31, ml_32, ml_40, ml_42, ml_48, ml_50, ml_57, ml_59, ml_60, ml_63, ml_98, ml_100, ml_103, ml_104, ml_105, ml_106, ml_107, ml_108, ml_109, ml_110, ml_111, ml_112, ml_113, ml_114, ml_115, ml_120, ml_127, ml_176, ml_180, ml_200, ml_254, ml_255, ml_256, ml_300, ml_728, ml_832, ml_65536, hi', e1, p1, hs]
      · rw [if_neg p1] at hs
        by_cases p2 : Op.cmpValue (FP.fcmp (nI (σ (100 + i))).toUInt32 (nI (σ (100 + a))).toUInt32) CmpOp.l = nI 0
        · rw [if_pos p2] at hs
          have p1' : ¬ nI 0 < nI 0 := by decide
          by_cases p3 : a ≤ i
          · rw [if_pos p3] at hs
            simp (discharger := omega) only [f_X9_spendingMoreThan_L15, nI_add, mt_mul, nI_clamp, nI_leI, nI_ltI, nI_eq, mt_in_t, mt_b1, mt_b2, mt_b3, mt_b4, mt_l, mt_g, ↓reduceIte, Nat.reduceEqDiff, Nat.reduceLeDiff, ml_0, ml_1, ml_2, ml_3, ml_4, ml_5, ml_6, ml_7, ml_8, ml_9, ml_10, ml_11, ml_12, ml_13, ml_14, ml_16, ml_31, ml_32, ml_40, ml_42, ml_48, ml_50, ml_57, ml_59, ml_60, ml_63, ml_98, ml_100, ml_103, ml_104, ml_105, ml_106, ml_107, ml_108, ml_109, ml_110, ml_111, ml_112, ml_113, ml_114, ml_115, ml_120, ml_127, ml_176, ml_180, ml_200, ml_254, ml_255, ml_256, ml_300, ml_728, ml_832, ml_65536, hi', e1, p2, p3, hs, Nat.add_zero, Nat.lt_irrefl]
          · rw [if_neg p3] at hs
            simp (discharger := omega) only [f_X9_spendingMoreThan_L15, nI_add, mt_mul, nI_clamp, nI_leI, nI_ltI, nI_eq, mt_in_t, mt_b1, mt_b2, mt_b3, mt_b4, mt_l, mt_g, ↓reduceIte, Nat.reduceEqDiff, Nat.reduceLeDiff, ml_0, ml_1, ml_2, ml_3, ml_4, ml_5, ml_6, ml_7, ml_8, ml_9, ml_10, ml_11, ml_12, ml_13, ml_14, ml_16, ml_31, ml_32, ml_40, ml_42, ml_48, ml_50, ml_57, ml_59, ml_60, ml_63, ml_98, ml_100, ml_103, ml_104, ml_105, ml_106, ml_107, ml_108, ml_109, ml_110, ml_111, ml_112, ml_113, ml_114, ml_115, ml_120, ml_127, ml_176, ml_180, ml_200, ml_254, ml_255, ml_256, ml_300, ml_728, ml_832, ml_65536, hi', e1, p2, p3, hs, Nat.lt_irrefl]
        · rw [if_neg p2] at hs
          simp (discharger := omega) only [f_X9_spendingMoreThan_L15, nI_add, mt_mul, nI_clamp, nI_leI, nI_ltI, nI_eq, mt_in_t, mt_b1, mt_b2, mt_b3, mt_b4, mt_l, mt_g, ↓reduceIte, Nat.reduceEqDiff, Nat.reduceLeDiff, ml_0, ml_1, ml_2, ml_3, ml_4, ml_5, ml_6, ml_7, ml_8, ml_9, ml_10, ml_11, ml_12, ml_13, ml_14, ml_16, ml_31, ml_32, ml_40, ml_42, ml_48, ml_50, ml_57, ml_59, ml_60, ml_63, ml_98, ml_100, ml_103, ml_104, ml_105, ml_106, ml_107, ml_108, ml_109, ml_110, ml_111, ml_112, ml_113, ml_114, ml_115, ml_120, ml_127, ml_176, ml_180, ml_200, ml_254, ml_255, ml_256, ml_300, ml_728, ml_832, ml_65536, hi', e1, p1, p2, hs, Nat.add_zero]
  simp (discharger := omega) only [f_X9_spendingMoreThan, nI_add, mt_mul, nI_clamp, nI_leI, nI_ltI, nI_eq, mt_in_t, mt_b1, mt_b2, mt_b3, mt_b4, mt_l, mt_g, ↓reduceIte, Nat.reduceEqDiff, Nat.reduceLeDiff, ml_0, ml_1, ml_2, ml_3, ml_4, ml_5, ml_6, ml_7, ml_8, ml_9, ml_10, ml_11, ml_12, ml_13, ml_14, ml_16, ml_31, ml_32, ml_40, ml_42, ml_48, ml_50, ml_57, ml_59, ml_60, ml_63, ml_98, ml_100, ml_103, ml_104, ml_105, ml_106, ml_107, ml_108, ml_109, ml_110, ml_111, ml_112, ml_113, ml_114, ml_115, ml_120, ml_127, ml_176, ml_180, ml_200, ml_254, ml_255, ml_256, ml_300, ml_728, ml_832, ml_65536, e0, key]
theorem mc_spender {σ : Nat → Nat} (hC : mt_C μ 0 σ) (x : Int32) : f_X9_spender μ x = some (match ms_fi (ms_sq σ x) 4 with | some a => (μ, nI a, 0) | none => (μ, nI 0, 5)) := by
  unfold f_X9_spender
  refine mt_while (L := fun n (_ : Unit) i => f_X9_spender_L2 n μ x i) (I := fun i _ => ms_fi (ms_sq σ x) i = none) (P := fun r => r = some (match ms_fi (ms_sq σ x) 4 with | some a => (μ, nI a, 0) | none => (μ, nI 0, 5))) (N := 4) ?_ ?_ 4 1000 () 0 (by omega) (by omega) rfl
  · intro n _ h
    rw [h]
    simp (discharger := omega) only [f_X9_spender_L2, nI_add, mt_mul, nI_clamp, nI_leI, nI_ltI, nI_eq, mt_in_t, mt_b1, mt_b2, mt_b3, mt_b4, mt_l, mt_g, ↓reduceIte, Nat.reduceEqDiff, Nat.reduceLeDiff, ml_0, ml_1, ml_2, ml_3, ml_4, ml_5, ml_6, ml_7, ml_8, ml_9, ml_10, ml_11, ml_12, ml_13, ml_14, ml_16, ml_31, ml_32, ml_40, ml_42, ml_48, ml_50, ml_57, ml_59, ml_60, ml_63, ml_98, ml_100, ml_103, ml_104, ml_105, ml_106, ml_107, ml_108, ml_109, ml_110, ml_111, ml_112, ml_113, ml_114, ml_115, ml_120, ml_127, ml_176, ml_180, ml_200, ml_254, ml_255, ml_256, ml_300, ml_728, ml_832, ml_65536, Nat.le_refl]
  · intro n _ i hi h
    have e := mc_spends hC hi
    have hi' : ¬ 4 ≤ i := by omega
    by_cases p : nI (ms_sa σ i 4) = x
    · right
      rw [ms_fi_y h (decide_eq_true p) hi]
      simp (discharger := omega) only [f_X9_spender_L2, nI_add, mt_mul, nI_clamp, nI_leI, nI_ltI, nI_eq, mt_in_t, mt_b1, mt_b2, mt_b3, mt_b4, mt_l, mt_g, ↓reduceIte, Nat.reduceEqDiff, Nat.reduceLeDiff, ml_0, ml_1, ml_2, ml_3, ml_4, ml_5, ml_6, ml_7, ml_8, ml_9, ml_10, ml_11, ml_12, ml_13, ml_14, ml_16, ml_31, ml_32, ml_40, ml_42, ml_48, ml_50, ml_57, ml_59, ml_60, ml_63, ml_98, ml_100, ml_103, ml_104, ml_105, ml_106, ml_107, ml_108, ml_109, ml_110, ml_111, ml_112, ml_113, ml_114, ml_115, ml_120, ml_127, ml_176, ml_180, ml_200, ml_254, ml_255, ml_256, ml_300, ml_728, ml_832, ml_65536, hi', e, p]
    · left
      refine ⟨(), ms_fi_n h (decide_eq_false p), ?_⟩
      simp (discharger := omega) only [f_X9_spender_L2, nI_add, mt_mul, nI_clamp, nI_leI, nI_ltI, nI_eq, mt_in_t, mt_b1, mt_b2, mt_b3, mt_b4, mt_l, mt_g, ↓reduceIte, Nat.reduceEqDiff, Nat.reduceLeDiff, ml_0, ml_1, ml_2, ml_3, ml_4, ml_5, ml_6, ml_7, ml_8, ml_9, ml_10, ml_11, ml_12, ml_13, ml_14, ml_16, ml_31, ml_32, ml_40, ml_42, ml_48, ml_50, ml_57, ml_59, ml_60, ml_63, ml_98, ml_100, ml_103, ml_104, ml_105, ml_106, ml_107, ml_108, ml_109, ml_110, ml_111, ml_112, ml_113, ml_114, ml_115, ml_120, ml_127, ml_176, ml_180, ml_200, ml_254, ml_255, ml_256, ml_300, ml_728, ml_832, ml_65536, hi', e, p]
theorem mr_spender {σ : Nat → Nat} (hM : mt_M μ 19 0 σ) (hok : mt_ok B σ) (x : Int32) : f_X10_spender_L7 1000 μ x (nI 0) = some (match ms_fi (ms_sq σ x) 4 with | some a => (μ, nI a) | none => (fw_u μ 0 18 0 (nI 1), nI 0)) := by
  refine mt_while (L := fun n (_ : Unit) i => f_X10_spender_L7 n μ x i) (I := fun i _ => ms_fi (ms_sq σ x) i = none) (P := fun r => r = some (match ms_fi (ms_sq σ x) 4 with | some a => (μ, nI a) | none => (fw_u μ 0 18 0 (nI 1), nI 0))) (N := 4) ?_ ?_ 4 1000 () 0 (by omega) (by omega) rfl
  · intro n _ h
    rw [h]
    simp (discharger := omega) only [f_X10_spender_L7, f_X10_fails, nI_add, mt_mul, nI_clamp, nI_leI, nI_ltI, nI_eq, mt_in_t, mt_b1, mt_b2, mt_b3, mt_b4, mt_l, mt_g, ↓reduceIte, Nat.reduceEqDiff, Nat.reduceLeDiff, ml_0, ml_1, ml_2, ml_3, ml_4, ml_5, ml_6, ml_7, ml_8, ml_9, ml_10, ml_11, ml_12, ml_13, ml_14, ml_16, ml_31, ml_32, ml_40, ml_42, ml_48, ml_50, ml_57, ml_59, ml_60, ml_63, ml_98, ml_100, ml_103, ml_104, ml_105, ml_106, ml_107, ml_108, ml_109, ml_110, ml_111, ml_112, ml_113, ml_114, ml_115, ml_120, ml_127, ml_176, ml_180, ml_200, ml_254, ml_255, ml_256, ml_300, ml_728, ml_832, ml_65536, Nat.le_refl]
  · intro n _ a ha h
    have ea := mr_sumOf hM ha (hok.2.2.2.2 a ha)
    have ha' : ¬ 4 ≤ a := by omega
    have key : f_X10_spender_L17 (f_X10_spender_L7 n) 1000 μ x (nI a) (nI 0) (nI 0) = (if nI (ms_sa σ a 4) = x then some (μ, nI a) else f_X10_spender_L7 n μ x (nI (a + 1))) := by
      refine mt_det (fun n' (y : Int32) i => f_X10_spender_L17 (f_X10_spender_L7 n) n' μ x (nI a) y i) (fun i => nI (ms_sa σ a i)) (N := 4) ?_ ?_ (n := 1000) (by omega)
      · intro n'
        simp (discharger := omega) only [f_X10_spender_L17, nI_add, mt_mul, nI_clamp, nI_leI, nI_ltI, nI_eq, mt_in_t, mt_b1, mt_b2, mt_b3, mt_b4, mt_l, mt_g, ↓reduceIte, Nat.reduceEqDiff, Nat.reduceLeDiff, ml_0, ml_1, ml_2, ml_3, ml_4, ml_5, ml_6, ml_7, ml_8, ml_9, ml_10, ml_11, ml_12, ml_13, ml_14, ml_16, ml_31, ml_32, ml_40, ml_42, ml_48, ml_50, ml_57, ml_59, ml_60, ml_63, ml_98, ml_100, ml_103, ml_104, ml_105, ml_106, ml_107, ml_108, ml_109, ml_110, ml_111, ml_112, ml_113, ml_114, ml_115, ml_120, ml_127, ml_176, ml_180, ml_200, ml_254, ml_255, ml_256, ml_300, ml_728, ml_832, ml_65536, Nat.le_refl]
      · intro n' i hi
        have ei := mr_sumOf hM hi (hok.2.2.2.2 i hi)
        have hi' : ¬ 4 ≤ i := by omega
        have hs : ms_sa σ a (i + 1) = ms_sa σ a i + (if ms_g1 σ i a then 1 else if ms_g2 σ i a then (if a ≤ i then 0 else 1) else 0) := rfl
        by_cases p1 : nI 0 < Op.cmpValue (FP.fcmp (nI (σ (100 + i))).toUInt32 (nI (σ (100 + a))).toUInt32) CmpOp.l
        · rw [if_pos p1] at hs
          simp (discharger := omega) only [f_X10_spender_L17, nI_add, mt_mul, nI_clamp, nI_leI, nI_ltI, nI_eq, mt_in_t, mt_b1, mt_b2, mt_b3, mt_b4, mt_l, mt_g, ↓reduceIte, Nat.reduceEqDiff, Nat.reduceLeDiff, ml_0, ml_1, ml_2, ml_3, ml_4, ml_5, ml_6, ml_7, ml_8, ml_9, ml_10, ml_11, ml_12, ml_13, ml_14, ml_16, ml_31, ml_32, ml_40, ml_42, ml_48, ml_50, ml_57, ml_59, ml_60, ml_63, ml_98, ml_100, ml_103, ml_104, ml_105, ml_106, ml_107, ml_108, ml_109, ml_110, ml_111, ml_112, ml_113, ml_114, ml_115, ml_120, ml_127, ml_176, ml_180, ml_200, ml_254, ml_255, ml_256, ml_300, ml_728, ml_832, ml_65536, hi', ei, ea, p1, hs]
        · rw [if_neg p1] at hs
          by_cases p2 : Op.cmpValue (FP.fcmp (nI (σ (100 + i))).toUInt32 (nI (σ (100 + a))).toUInt32) CmpOp.l = nI 0
          · rw [if_pos p2] at hs
            by_cases p3 : a ≤ i
            · rw [if_pos p3] at hs
              simp (discharger := omega) only [f_X10_spender_L17, nI_add, mt_mul, nI_clamp, nI_leI, nI_ltI, nI_eq, mt_in_t, mt_b1, mt_b2, mt_b3, mt_b4, mt_l, mt_g, ↓reduceIte, Nat.reduceEqDiff, Nat.reduceLeDiff, ml_0, ml_1, ml_2, ml_3, ml_4, ml_5, ml_6, ml_7, ml_8, ml_9, ml_10, ml_11, ml_12, ml_13, ml_14, ml_16, ml_31, ml_32, ml_40, ml_42, ml_48, ml_50, ml_57, ml_59, ml_60, ml_63, ml_98, ml_100, ml_103, ml_104, ml_105, ml_106, ml_107, ml_108, ml_109, ml_110, ml_111, ml_112, ml_113, ml_114, ml_115, ml_120, ml_127, ml_176, ml_180, ml_200, ml_254, ml_255, ml_256, ml_300, ml_728, ml_832, ml_65536, hi', ei, ea, p2, p3, hs, Nat.lt_irrefl]
            · rw [if_neg p3] at hs
              simp (discharger := omega) only [f_X10_spender_L17, nI_add, mt_mul, nI_clamp, nI_leI, nI_ltI, nI_eq, mt_in_t, mt_b1, mt_b2, mt_b3, mt_b4, mt_l, mt_g, ↓reduceIte, Nat.reduceEqDiff, Nat.reduceLeDiff, ml_0, ml_1, ml_2, ml_3, ml_4, ml_5, ml_6, ml_7, ml_8, ml_9, ml_10, ml_11, ml_12, ml_13, ml_14, ml_16, ml_31, ml_32, ml_40, ml_42, ml_48, ml_50, ml_57, ml_59, ml_60, ml_63, ml_98, ml_100, ml_103, ml_104, ml_105, ml_106, ml_107, ml_108, ml_109, ml_110, ml_111, ml_112, ml_113, ml_114, ml_115, ml_120, ml_127, ml_176, ml_180, ml_200, ml_254, ml_255, ml_256, ml_300, ml_728, ml_832, ml_65536, hi', ei, ea, p2, p3, hs, Nat.lt_irrefl]
          · rw [if_neg p2] at hs
            simp (discharger := omega) only [f_X10_spender_L17, nI_add, mt_mul, nI_clamp, nI_leI, nI_ltI, nI_eq, mt_in_t, mt_b1, mt_b2, mt_b3, mt_b4, mt_l, mt_g, ↓reduceIte, Nat.reduceEqDiff, Nat.reduceLeDiff, ml_0, ml_1, ml_2, ml_3, ml_4, ml_5, ml_6, ml_7, ml_8, ml_9, ml_10, ml_11, ml_12, ml_13, ml_14, ml_16, ml_31, ml_32, ml_40, ml_42, ml_48, ml_50, ml_57, ml_59, ml_60, ml_63, ml_98, ml_100, ml_103, ml_104, ml_105, ml_106, ml_107, ml_108, ml_109, ml_110, ml_111, ml_112, ml_113, ml_114, ml_115, ml_120, ml_127, ml_176, ml_180, ml_200, ml_254, ml_255, ml_256, ml_300, ml_728, ml_832, ml_65536, hi', ei, ea, p1, p2, hs]
    by_cases p : nI (ms_sa σ a 4) = x
    · right
      rw [if_pos p] at key
      rw [ms_fi_y h (decide_eq_true p) ha]
      simp (discharger := omega) only [f_X10_spender_L7, nI_add, mt_mul, nI_clamp, nI_leI, nI_ltI, nI_eq, mt_in_t, mt_b1, mt_b2, mt_b3, mt_b4, mt_l, mt_g, ↓reduceIte, Nat.reduceEqDiff, Nat.reduceLeDiff, ml_0, ml_1, ml_2, ml_3, ml_4, ml_5, ml_6, ml_7, ml_8, ml_9, ml_10, ml_11, ml_12, ml_13, ml_14, ml_16, ml_31, ml_32, ml_40, ml_42, ml_48, ml_50, ml_57, ml_59, ml_60, ml_63, ml_98, ml_100, ml_103, ml_104, ml_105, ml_106, ml_107, ml_108, ml_109, ml_110, ml_111, ml_112, ml_113, ml_114, ml_115, ml_120, ml_127, ml_176, ml_180, ml_200, ml_254, ml_255, ml_256, ml_300, ml_728, ml_832, ml_65536, ha', key]
    · left
      rw [if_neg p] at key
      refine ⟨(), ms_fi_n h (decide_eq_false p), ?_⟩
      simp (discharger := omega) only [f_X10_spender_L7, nI_add, mt_mul, nI_clamp, nI_leI, nI_ltI, nI_eq, mt_in_t, mt_b1, mt_b2, mt_b3, mt_b4, mt_l, mt_g, ↓reduceIte, Nat.reduceEqDiff, Nat.reduceLeDiff, ml_0, ml_1, ml_2, ml_3, ml_4, ml_5, ml_6, ml_7, ml_8, ml_9, ml_10, ml_11, ml_12, ml_13, ml_14, ml_16, ml_31, ml_32, ml_40, ml_42, ml_48, ml_50, ml_57, ml_59, ml_60, ml_63, ml_98, ml_100, ml_103, ml_104, ml_105, ml_106, ml_107, ml_108, ml_109, ml_110, ml_111, ml_112, ml_113, ml_114, ml_115, ml_120, ml_127, ml_176, ml_180, ml_200, ml_254, ml_255, ml_256, ml_300, ml_728, ml_832, ml_65536, ha', key]
theorem pc_spender (hR : mt_R B μ) (x : Int32) : mt_A B Eq mt_e5 (f_X9_spender μ x) (fun m => f_X10_spender m x) := by
  obtain ⟨σ, hC, hM, hok⟩ := hR.1
  have e0 := mc_spender hC x
  have e1 := mr_spender (mt_M_t (t := 0) hM (by decide)) hok x
  cases hf : ms_fi (ms_sq σ x) 4 with
  | some a =>
    rw [hf] at e0 e1
    refine mt_A_ok (r := nI a) (r2 := nI a) hR e0 ?_ rfl
    simp (discharger := omega) only [f_X10_spender, nI_add, mt_mul, nI_clamp, nI_leI, nI_ltI, nI_eq, mt_in_t, mt_b1, mt_b2, mt_b3, mt_b4, mt_l, mt_g, ↓reduceIte, Nat.reduceEqDiff, Nat.reduceLeDiff, ml_0, ml_1, ml_2, ml_3, ml_4, ml_5, ml_6, ml_7, ml_8, ml_9, ml_10, ml_11, ml_12, ml_13, ml_14, ml_16, ml_31, ml_32, ml_40, ml_42, ml_48, ml_50, ml_57, ml_59, ml_60, ml_63, ml_98, ml_100, ml_103, ml_104, ml_105, ml_106, ml_107, ml_108, ml_109, ml_110, ml_111, ml_112, ml_113, ml_114, ml_115, ml_120, ml_127, ml_176, ml_180, ml_200, ml_254, ml_255, ml_256, ml_300, ml_728, ml_832, ml_65536, e1]
  | none =>
    rw [hf] at e0 e1
    refine mt_A_no (k := 5) (t := 1) (r := nI 0) (r2 := nI 0) hR e0 ?_ ⟨rfl, rfl⟩
    simp (discharger := omega) only [f_X10_spender, nI_add, mt_mul, nI_clamp, nI_leI, nI_ltI, nI_eq, mt_in_t, mt_b1, mt_b2, mt_b3, mt_b4, mt_l, mt_g, ↓reduceIte, Nat.reduceEqDiff, Nat.reduceLeDiff, ml_0, ml_1, ml_2, ml_3, ml_4, ml_5, ml_6, ml_7, ml_8, ml_9, ml_10, ml_11, ml_12, ml_13, ml_14, ml_16, ml_31, ml_32, ml_40, ml_42, ml_48, ml_50, ml_57, ml_59, ml_60, ml_63, ml_98, ml_100, ml_103, ml_104, ml_105, ml_106, ml_107, ml_108, ml_109, ml_110, ml_111, ml_112, ml_113, ml_114, ml_115, ml_120, ml_127, ml_176, ml_180, ml_200, ml_254, ml_255, ml_256, ml_300, ml_728, ml_832, ml_65536, e1, mt_uu]
def mt_e6 (k t : Nat) : Prop := k = 6 ∧ t = 1
theorem mt_hereN {σ : Nat → Nat} : True := trivial
theorem mf_D1 : ∀ s, s < 129 → ∀ n, n < 17 → 1 ≤ n → fw_f64 (FP.ddiv (FP.i2d (nI s)) (FP.i2d (nI n))) = true := by decide +kernel
theorem mf_D2 : ∀ s, s < 129 → ∀ n, n < 17 → 1 ≤ n → Op.cmpValue (FP.dcmp (FP.ddiv (FP.i2d (nI s)) (FP.i2d (nI n))) (FP.ddiv (FP.i2d (nI s)) (FP.i2d (nI n)))) CmpOp.l = nI 0 := by decide +kernel
theorem mf_D3 : ∀ s, s < 17 → ∀ n, n < 17 → 1 ≤ n → fw_f32 (FP.fdiv (FP.i2f (nI s)) (FP.i2f (nI n))) = true ∧ fw_f64 (FP.f2d (FP.fdiv (FP.i2f (nI s)) (FP.i2f (nI n)))) = true ∧ Op.cmpValue (FP.dcmp (FP.f2d (FP.fdiv (FP.i2f (nI s)) (FP.i2f (nI n)))) (FP.f2d (FP.fdiv (FP.i2f (nI s)) (FP.i2f (nI n))))) CmpOp.l = nI 0 := by decide +kernel
theorem ms_lt_n (σ : Nat → Nat) : ∀ n, mt_sm (fun g => if σ (4 + 6 * g + 4) = 3 then 1 else 0) n + mt_sm (fun g => if σ (4 + 6 * g + 4) = 3 then 0 else 1) n = n
  | 0 => rfl
  | n + 1 => by
    have ih := ms_lt_n σ n
    show mt_sm (fun g => if σ (4 + 6 * g + 4) = 3 then 1 else 0) n + (if σ (4 + 6 * n + 4) = 3 then 1 else 0) + (mt_sm (fun g => if σ (4 + 6 * g + 4) = 3 then 0 else 1) n + (if σ (4 + 6 * n + 4) = 3 then 0 else 1)) = n + 1
    split <;> omega
theorem ms_st_n {σ : Nat → Nat} (hk : mt_k σ) : ∀ n, n ≤ σ 0 → mt_sm (fun g => if σ (4 + 6 * g + 4) = 3 then 0 else ms_pc (σ (4 + 6 * g + 3))) n ≤ 8 * mt_sm (fun g => if σ (4 + 6 * g + 4) = 3 then 0 else 1) n
  | 0, _ => Nat.le_refl _
  | n + 1, h => by
    have ih := ms_st_n hk n (by omega)
    have b := ms_pc_lt _ (hk.2 n (by omega)).2.2.2.1
    show mt_sm (fun g => if σ (4 + 6 * g + 4) = 3 then 0 else ms_pc (σ (4 + 6 * g + 3))) n + (if σ (4 + 6 * n + 4) = 3 then 0 else ms_pc (σ (4 + 6 * n + 3))) ≤ 8 * (mt_sm (fun g => if σ (4 + 6 * g + 4) = 3 then 0 else 1) n + (if σ (4 + 6 * n + 4) = 3 then 0 else 1))
    split <;> omega
theorem pc_meanStains (hR : mt_R B μ) : mt_A B (fun a b => a = b ∧ Op.cmpValue (FP.dcmp a a) CmpOp.l = nI 0) mt_e6 (f_X9_meanStains μ) (fun m => f_X10_meanStains m) := by
  obtain ⟨σ, hC, hM, hok⟩ := hR.1
  have hk := hok.1
  have h16 := hk.1
  have cn := hC.1
  have rn := mt_at hM (i := 0) (by decide)
  have l1 := ms_lt_n σ (σ 0)
  have l2 := ms_st_n hk (σ 0) (Nat.le_refl _)
  generalize hN : mt_sm (fun g => if σ (4 + 6 * g + 4) = 3 then 0 else 1) (σ 0) = N at l1 l2
  generalize hS : mt_sm (fun g => if σ (4 + 6 * g + 4) = 3 then 0 else ms_pc (σ (4 + 6 * g + 3))) (σ 0) = S at l2
  have key1 : f_X9_meanStains μ = (if N = 0 then some (μ, 0, 6) else some (μ, FP.ddiv (FP.i2d (nI S)) (FP.i2d (nI N)), 0)) := by
    unfold f_X9_meanStains
    refine mt_det (fun n (x : Int32 × Int32) i => f_X9_meanStains_L6 n μ x.1 x.2 i) (fun i => (nI (mt_sm (fun g => if σ (4 + 6 * g + 4) = 3 then 0 else ms_pc (σ (4 + 6 * g + 3))) i), nI (mt_sm (fun g => if σ (4 + 6 * g + 4) = 3 then 0 else 1) i))) (N := σ 0) ?_ ?_ (n := 1000) (by omega)
    · intro n
      rw [hN, hS]
      by_cases p : N = 0
      · simp (discharger := omega) only [f_X9_meanStains_L6, nI_add, mt_mul, nI_clamp, nI_leI, nI_ltI, nI_eq, mt_in_t, mt_b1, mt_b2, mt_b3, mt_b4, mt_l, mt_g, ↓reduceIte, Nat.reduceEqDiff, Nat.reduceLeDiff, ml_0, ml_1, ml_2, ml_3, ml_4, ml_5, ml_6, ml_7, ml_8, ml_9, ml_10, ml_11, ml_12, ml_13, ml_14, ml_16, ml_31, ml_32, ml_40, ml_42, ml_48, ml_50, ml_57, ml_59, ml_60, ml_63, ml_98, ml_100, ml_103, ml_104, ml_105, ml_106, ml_107, ml_108, ml_109, ml_110, ml_111, ml_112, ml_113, ml_114, ml_115, ml_120, ml_127, ml_176, ml_180, ml_200, ml_254, ml_255, ml_256, ml_300, ml_728, ml_832, ml_65536, cn, p, Nat.le_refl]
      · have d := mf_D1 S (by omega) N (by omega) (by omega)
        simp (discharger := omega) only [f_X9_meanStains_L6, nI_add, mt_mul, nI_clamp, nI_leI, nI_ltI, nI_eq, mt_in_t, mt_b1, mt_b2, mt_b3, mt_b4, mt_l, mt_g, ↓reduceIte, Nat.reduceEqDiff, Nat.reduceLeDiff, ml_0, ml_1, ml_2, ml_3, ml_4, ml_5, ml_6, ml_7, ml_8, ml_9, ml_10, ml_11, ml_12, ml_13, ml_14, ml_16, ml_31, ml_32, ml_40, ml_42, ml_48, ml_50, ml_57, ml_59, ml_60, ml_63, ml_98, ml_100, ml_103, ml_104, ml_105, ml_106, ml_107, ml_108, ml_109, ml_110, ml_111, ml_112, ml_113, ml_114, ml_115, ml_120, ml_127, ml_176, ml_180, ml_200, ml_254, ml_255, ml_256, ml_300, ml_728, ml_832, ml_65536, cn, p, d, Nat.le_refl]
    · intro n i hi
      have e4 : μ 0 5 i = nI (σ (4 + 6 * i + 4)) := mt_C_g hC (w := 4) (by decide) hi
      have e := mc_stainsOn hC hk hi
      have b4 := (hk.2 i hi).2.2.2.2
      have hi' : ¬ σ 0 ≤ i := by omega
      by_cases p : σ (4 + 6 * i + 4) = 3 <;> simp (discharger := omega) only [f_X9_meanStains_L6, nI_add, mt_mul, nI_clamp, nI_leI, nI_ltI, nI_eq, mt_in_t, mt_b1, mt_b2, mt_b3, mt_b4, mt_l, mt_g, ↓reduceIte, Nat.reduceEqDiff, Nat.reduceLeDiff, ml_0, ml_1, ml_2, ml_3, ml_4, ml_5, ml_6, ml_7, ml_8, ml_9, ml_10, ml_11, ml_12, ml_13, ml_14, ml_16, ml_31, ml_32, ml_40, ml_42, ml_48, ml_50, ml_57, ml_59, ml_60, ml_63, ml_98, ml_100, ml_103, ml_104, ml_105, ml_106, ml_107, ml_108, ml_109, ml_110, ml_111, ml_112, ml_113, ml_114, ml_115, ml_120, ml_127, ml_176, ml_180, ml_200, ml_254, ml_255, ml_256, ml_300, ml_728, ml_832, ml_65536, cn, hi', e4, e, p, mt_sm, Nat.add_zero]
  have key2 : f_X10_meanStains μ = f_X10_meanStains_J72 μ (nI N) (nI S) (if N = 0 then nI 1 else nI 0) := by
    unfold f_X10_meanStains
    refine mt_det (fun n (x : Int32 × Int32) i => f_X10_meanStains_L6 n μ x.1 x.2 i) (fun i => (nI (mt_sm (fun g => if σ (4 + 6 * g + 4) = 3 then 0 else 1) i), nI (mt_sm (fun g => if σ (4 + 6 * g + 4) = 3 then 0 else ms_pc (σ (4 + 6 * g + 3))) i))) (N := σ 0) ?_ ?_ (n := 1000) (by omega)
    · intro n
      rw [hN, hS]
      by_cases p : N = 0 <;> simp (discharger := omega) only [f_X10_meanStains_L6, nI_add, mt_mul, nI_clamp, nI_leI, nI_ltI, nI_eq, mt_in_t, mt_b1, mt_b2, mt_b3, mt_b4, mt_l, mt_g, ↓reduceIte, Nat.reduceEqDiff, Nat.reduceLeDiff, ml_0, ml_1, ml_2, ml_3, ml_4, ml_5, ml_6, ml_7, ml_8, ml_9, ml_10, ml_11, ml_12, ml_13, ml_14, ml_16, ml_31, ml_32, ml_40, ml_42, ml_48, ml_50, ml_57, ml_59, ml_60, ml_63, ml_98, ml_100, ml_103, ml_104, ml_105, ml_106, ml_107, ml_108, ml_109, ml_110, ml_111, ml_112, ml_113, ml_114, ml_115, ml_120, ml_127, ml_176, ml_180, ml_200, ml_254, ml_255, ml_256, ml_300, ml_728, ml_832, ml_65536, rn, p, Nat.le_refl]
    · intro n i hi
      have e4 := mr_of hM (g := i) (w := 4) (by omega) (by decide)
      have e3 := mr_of hM (g := i) (w := 3) (by omega) (by decide)
      have b4 := (hk.2 i hi).2.2.2.2
      have b3 := (hk.2 i hi).2.2.2.1
      have hi' : ¬ σ 0 ≤ i := by omega
      by_cases p : σ (4 + 6 * i + 4) = 3 <;> simp (discharger := omega) only [f_X10_meanStains_L6, f_X10_meanStains_J30, f_X10_isHere, nI_add, mt_mul, nI_clamp, nI_leI, nI_ltI, nI_eq, mt_in_t, mt_b1, mt_b2, mt_b3, mt_b4, mt_l, mt_g, ↓reduceIte, Nat.reduceEqDiff, Nat.reduceLeDiff, ml_0, ml_1, ml_2, ml_3, ml_4, ml_5, ml_6, ml_7, ml_8, ml_9, ml_10, ml_11, ml_12, ml_13, ml_14, ml_16, ml_31, ml_32, ml_40, ml_42, ml_48, ml_50, ml_57, ml_59, ml_60, ml_63, ml_98, ml_100, ml_103, ml_104, ml_105, ml_106, ml_107, ml_108, ml_109, ml_110, ml_111, ml_112, ml_113, ml_114, ml_115, ml_120, ml_127, ml_176, ml_180, ml_200, ml_254, ml_255, ml_256, ml_300, ml_728, ml_832, ml_65536, rn, hi', e4, e3, p, mt_sm, mr_bits]
  by_cases p : N = 0
  · rw [if_pos p] at key1 key2
    refine mt_A_no (k := 6) (t := 1) (r := 0) (r2 := FP.dconst0) hR key1 ?_ ⟨rfl, rfl⟩
    show f_X10_meanStains μ = _
    rw [key2]
    simp (discharger := omega) only [f_X10_meanStains_J72, nI_add, mt_mul, nI_clamp, nI_leI, nI_ltI, nI_eq, mt_in_t, mt_b1, mt_b2, mt_b3, mt_b4, mt_l, mt_g, ↓reduceIte, Nat.reduceEqDiff, Nat.reduceLeDiff, ml_0, ml_1, ml_2, ml_3, ml_4, ml_5, ml_6, ml_7, ml_8, ml_9, ml_10, ml_11, ml_12, ml_13, ml_14, ml_16, ml_31, ml_32, ml_40, ml_42, ml_48, ml_50, ml_57, ml_59, ml_60, ml_63, ml_98, ml_100, ml_103, ml_104, ml_105, ml_106, ml_107, ml_108, ml_109, ml_110, ml_111, ml_112, ml_113, ml_114, ml_115, ml_120, ml_127, ml_176, ml_180, ml_200, ml_254, ml_255, ml_256, ml_300, ml_728, ml_832, ml_65536, mt_uy]
  · rw [if_neg p] at key1 key2
    refine mt_A_ok (r2 := FP.ddiv (FP.i2d (nI S)) (FP.i2d (nI N))) hR key1 ?_ ⟨rfl, mf_D2 S (by omega) N (by omega) (by omega)⟩
    have d := mf_D1 S (by omega) N (by omega) (by omega)
    show f_X10_meanStains μ = _
    rw [key2]
    simp (discharger := omega) only [f_X10_meanStains_J72, nI_add, mt_mul, nI_clamp, nI_leI, nI_ltI, nI_eq, mt_in_t, mt_b1, mt_b2, mt_b3, mt_b4, mt_l, mt_g, ↓reduceIte, Nat.reduceEqDiff, Nat.reduceLeDiff, ml_0, ml_1, ml_2, ml_3, ml_4, ml_5, ml_6, ml_7, ml_8, ml_9, ml_10, ml_11, ml_12, ml_13, ml_14, ml_16, ml_31, ml_32, ml_40, ml_42, ml_48, ml_50, ml_57, ml_59, ml_60, ml_63, ml_98, ml_100, ml_103, ml_104, ml_105, ml_106, ml_107, ml_108, ml_109, ml_110, ml_111, ml_112, ml_113, ml_114, ml_115, ml_120, ml_127, ml_176, ml_180, ml_200, ml_254, ml_255, ml_256, ml_300, ml_728, ml_832, ml_65536, mt_uy, d, Nat.le_refl]
theorem pc_lostShare (hR : mt_R B μ) : mt_A B mt_fr2 mt_e6 (f_X9_lostShare μ) (fun m => f_X10_lostShare m) := by
  obtain ⟨σ, hC, hM, hok⟩ := hR.1
  have hk := hok.1
  have h16 := hk.1
  have cn := hC.1
  have rn := mt_at hM (i := 0) (by decide)
  by_cases p : σ 0 = 0
  · rw [p] at cn rn
    refine mt_A_no (k := 6) (t := 1) (r := 0) (r2 := FP.fconst0) hR ?_ ?_ ⟨rfl, rfl⟩
    · simp (discharger := omega) only [f_X9_lostShare, nI_add, mt_mul, nI_clamp, nI_leI, nI_ltI, nI_eq, mt_in_t, mt_b1, mt_b2, mt_b3, mt_b4, mt_l, mt_g, ↓reduceIte, Nat.reduceEqDiff, Nat.reduceLeDiff, ml_0, ml_1, ml_2, ml_3, ml_4, ml_5, ml_6, ml_7, ml_8, ml_9, ml_10, ml_11, ml_12, ml_13, ml_14, ml_16, ml_31, ml_32, ml_40, ml_42, ml_48, ml_50, ml_57, ml_59, ml_60, ml_63, ml_98, ml_100, ml_103, ml_104, ml_105, ml_106, ml_107, ml_108, ml_109, ml_110, ml_111, ml_112, ml_113, ml_114, ml_115, ml_120, ml_127, ml_176, ml_180, ml_200, ml_254, ml_255, ml_256, ml_300, ml_728, ml_832, ml_65536, cn]
    · simp (discharger := omega) only [f_X10_lostShare, f_X10_lostShare_J15, nI_add, mt_mul, nI_clamp, nI_leI, nI_ltI, nI_eq, mt_in_t, mt_b1, mt_b2, mt_b3, mt_b4, mt_l, mt_g, ↓reduceIte, Nat.reduceEqDiff, Nat.reduceLeDiff, ml_0, ml_1, ml_2, ml_3, ml_4, ml_5, ml_6, ml_7, ml_8, ml_9, ml_10, ml_11, ml_12, ml_13, ml_14, ml_16, ml_31, ml_32, ml_40, ml_42, ml_48, ml_50, ml_57, ml_59, ml_60, ml_63, ml_98, ml_100, ml_103, ml_104, ml_105, ml_106, ml_107, ml_108, ml_109, ml_110, ml_111, ml_112, ml_113, ml_114, ml_115, ml_120, ml_127, ml_176, ml_180, ml_200, ml_254, ml_255, ml_256, ml_300, ml_728, ml_832, ml_65536, rn, mt_uy]
  · have l1 := ms_lt_n σ (σ 0)
    have e0 := mc_garmentsAt hC hk (p := 3) (by decide)
    have e1 := mt_bcm (μ := μ) h16 (f := fun g => if σ (4 + 6 * g + 4) = 3 then 2 ^ g else 0) (h := fun g => if σ (4 + 6 * g + 4) = 3 then 1 else 0) (fun g _ => by
      by_cases h : σ (4 + 6 * g + 4) = 3
      · exact Or.inl ⟨if_pos h, if_pos h⟩
      · exact Or.inr ⟨if_neg h, if_neg h⟩)
    have hM' := mt_M_t (t := 0) hM (by decide)
    have rn' := mt_at hM' (i := 0) (by decide)
    generalize hS : mt_sm (fun g => if σ (4 + 6 * g + 4) = 3 then 1 else 0) (σ 0) = S at l1 e1
    obtain ⟨d1, d2, d3⟩ := mf_D3 S (by omega) (σ 0) (by omega) (by omega)
    have key : f_X10_lostShare_L31 1000 (fw_u μ 0 18 0 (nI 0)) (nI 0) (nI 0) = some (fw_u μ 0 18 0 (nI 0), FP.fdiv (FP.i2f (nI S)) (FP.i2f (nI (σ 0)))) := by
      refine mt_det (fun n (x : Int32) i => f_X10_lostShare_L31 n (fw_u μ 0 18 0 (nI 0)) x i) (fun i => nI (mt_sm (fun g => if σ (4 + 6 * g + 4) = 3 then 1 else 0) i)) (N := σ 0) ?_ ?_ (n := 1000) (by omega)
      · intro n
        rw [hS]
        simp (discharger := omega) only [f_X10_lostShare_L31, nI_add, mt_mul, nI_clamp, nI_leI, nI_ltI, nI_eq, mt_in_t, mt_b1, mt_b2, mt_b3, mt_b4, mt_l, mt_g, ↓reduceIte, Nat.reduceEqDiff, Nat.reduceLeDiff, ml_0, ml_1, ml_2, ml_3, ml_4, ml_5, ml_6, ml_7, ml_8, ml_9, ml_10, ml_11, ml_12, ml_13, ml_14, ml_16, ml_31, ml_32, ml_40, ml_42, ml_48, ml_50, ml_57, ml_59, ml_60, ml_63, ml_98, ml_100, ml_103, ml_104, ml_105, ml_106, ml_107, ml_108, ml_109, ml_110, ml_111, ml_112, ml_113, ml_114, ml_115, ml_120, ml_127, ml_176, ml_180, ml_200, ml_254, ml_255, ml_256, ml_300, ml_728, ml_832, ml_65536, rn', d1, Nat.le_refl]
      · intro n i hi
        have e4 := mr_of hM' (g := i) (w := 4) (by omega) (by decide)
        have b4 := (hk.2 i hi).2.2.2.2
        have hi' : ¬ σ 0 ≤ i := by omega
        by_cases p : σ (4 + 6 * i + 4) = 3 <;> simp (discharger := omega) only [f_X10_lostShare_L31, f_X10_isHere, nI_add, mt_mul, nI_clamp, nI_leI, nI_ltI, nI_eq, mt_in_t, mt_b1, mt_b2, mt_b3, mt_b4, mt_l, mt_g, ↓reduceIte, Nat.reduceEqDiff, Nat.reduceLeDiff, ml_0, ml_1, ml_2, ml_3, ml_4, ml_5, ml_6, ml_7, ml_8, ml_9, ml_10, ml_11, ml_12, ml_13, ml_14, ml_16, ml_31, ml_32, ml_40, ml_42, ml_48, ml_50, ml_57, ml_59, ml_60, ml_63, ml_98, ml_100, ml_103, ml_104, ml_105, ml_106, ml_107, ml_108, ml_109, ml_110, ml_111, ml_112, ml_113, ml_114, ml_115, ml_120, ml_127, ml_176, ml_180, ml_200, ml_254, ml_255, ml_256, ml_300, ml_728, ml_832, ml_65536, rn', hi', e4, p, mt_sm]
    refine mt_A_ok (r := FP.fdiv (FP.i2f (nI S)) (FP.i2f (nI (σ 0)))) hR ?_ ?_ ⟨rfl, d2, d3⟩
    · simp (discharger := omega) only [f_X9_lostShare, nI_add, mt_mul, nI_clamp, nI_leI, nI_ltI, nI_eq, mt_in_t, mt_b1, mt_b2, mt_b3, mt_b4, mt_l, mt_g, ↓reduceIte, Nat.reduceEqDiff, Nat.reduceLeDiff, ml_0, ml_1, ml_2, ml_3, ml_4, ml_5, ml_6, ml_7, ml_8, ml_9, ml_10, ml_11, ml_12, ml_13, ml_14, ml_16, ml_31, ml_32, ml_40, ml_42, ml_48, ml_50, ml_57, ml_59, ml_60, ml_63, ml_98, ml_100, ml_103, ml_104, ml_105, ml_106, ml_107, ml_108, ml_109, ml_110, ml_111, ml_112, ml_113, ml_114, ml_115, ml_120, ml_127, ml_176, ml_180, ml_200, ml_254, ml_255, ml_256, ml_300, ml_728, ml_832, ml_65536, cn, p, e0, e1, d1]
    · simp (discharger := omega) only [f_X10_lostShare, f_X10_lostShare_J15, nI_add, mt_mul, nI_clamp, nI_leI, nI_ltI, nI_eq, mt_in_t, mt_b1, mt_b2, mt_b3, mt_b4, mt_l, mt_g, ↓reduceIte, Nat.reduceEqDiff, Nat.reduceLeDiff, ml_0, ml_1, ml_2, ml_3, ml_4, ml_5, ml_6, ml_7, ml_8, ml_9, ml_10, ml_11, ml_12, ml_13, ml_14, ml_16, ml_31, ml_32, ml_40, ml_42, ml_48, ml_50, ml_57, ml_59, ml_60, ml_63, ml_98, ml_100, ml_103, ml_104, ml_105, ml_106, ml_107, ml_108, ml_109, ml_110, ml_111, ml_112, ml_113, ml_114, ml_115, ml_120, ml_127, ml_176, ml_180, ml_200, ml_254, ml_255, ml_256, ml_300, ml_728, ml_832, ml_65536, rn, p, mt_uy, key, Nat.le_refl]
/-! what is compared without a throw -/
def mt_A0 (B : Nat) (X : Option Int32) (μ : fw_M) (Y : Option (fw_M × Int32)) : Prop := ∃ r μ2, X = some r ∧ Y = some (μ2, r) ∧ mt_R B μ2
theorem pc_garmentCount (hR : mt_R B μ) : mt_A0 B (f_X9_garmentCount μ) μ (f_X10_garmentCount μ) := by
  obtain ⟨σ, hC, hM, hok⟩ := hR.1
  have rn := mt_at (mt_M_t (t := 0) hM (by decide)) (i := 0) (by decide)
  refine ⟨nI (σ 0), _, ?_, ?_, mt_R_t (t := 0) hR⟩
  · simp (discharger := omega) only [f_X9_garmentCount, nI_add, mt_mul, nI_clamp, nI_leI, nI_ltI, nI_eq, mt_in_t, mt_b1, mt_b2, mt_b3, mt_b4, mt_l, mt_g, ↓reduceIte, Nat.reduceEqDiff, Nat.reduceLeDiff, ml_0, ml_1, ml_2, ml_3, ml_4, ml_5, ml_6, ml_7, ml_8, ml_9, ml_10, ml_11, ml_12, ml_13, ml_14, ml_16, ml_31, ml_32, ml_40, ml_42, ml_48, ml_50, ml_57, ml_59, ml_60, ml_63, ml_98, ml_100, ml_103, ml_104, ml_105, ml_106, ml_107, ml_108, ml_109, ml_110, ml_111, ml_112, ml_113, ml_114, ml_115, ml_120, ml_127, ml_176, ml_180, ml_200, ml_254, ml_255, ml_256, ml_300, ml_728, ml_832, ml_65536, hC.1]
  · simp (discharger := omega) only [f_X10_garmentCount, nI_add, mt_mul, nI_clamp, nI_leI, nI_ltI, nI_eq, mt_in_t, mt_b1, mt_b2, mt_b3, mt_b4, mt_l, mt_g, ↓reduceIte, Nat.reduceEqDiff, Nat.reduceLeDiff, ml_0, ml_1, ml_2, ml_3, ml_4, ml_5, ml_6, ml_7, ml_8, ml_9, ml_10, ml_11, ml_12, ml_13, ml_14, ml_16, ml_31, ml_32, ml_40, ml_42, ml_48, ml_50, ml_57, ml_59, ml_60, ml_63, ml_98, ml_100, ml_103, ml_104, ml_105, ml_106, ml_107, ml_108, ml_109, ml_110, ml_111, ml_112, ml_113, ml_114, ml_115, ml_120, ml_127, ml_176, ml_180, ml_200, ml_254, ml_255, ml_256, ml_300, ml_728, ml_832, ml_65536, rn]
theorem pc_runCount (hR : mt_R B μ) : mt_A0 B (f_X9_runCount μ) μ (f_X10_runCount μ) := by
  obtain ⟨σ, hC, hM, hok⟩ := hR.1
  have rn := mt_at (mt_M_t (t := 0) hM (by decide)) (i := 1) (by decide)
  refine ⟨nI (σ 1), _, ?_, ?_, mt_R_t (t := 0) hR⟩
  · simp (discharger := omega) only [f_X9_runCount, nI_add, mt_mul, nI_clamp, nI_leI, nI_ltI, nI_eq, mt_in_t, mt_b1, mt_b2, mt_b3, mt_b4, mt_l, mt_g, ↓reduceIte, Nat.reduceEqDiff, Nat.reduceLeDiff, ml_0, ml_1, ml_2, ml_3, ml_4, ml_5, ml_6, ml_7, ml_8, ml_9, ml_10, ml_11, ml_12, ml_13, ml_14, ml_16, ml_31, ml_32, ml_40, ml_42, ml_48, ml_50, ml_57, ml_59, ml_60, ml_63, ml_98, ml_100, ml_103, ml_104, ml_105, ml_106, ml_107, ml_108, ml_109, ml_110, ml_111, ml_112, ml_113, ml_114, ml_115, ml_120, ml_127, ml_176, ml_180, ml_200, ml_254, ml_255, ml_256, ml_300, ml_728, ml_832, ml_65536, hC.2.1]
  · simp (discharger := omega) only [f_X10_runCount, nI_add, mt_mul, nI_clamp, nI_leI, nI_ltI, nI_eq, mt_in_t, mt_b1, mt_b2, mt_b3, mt_b4, mt_l, mt_g, ↓reduceIte, Nat.reduceEqDiff, Nat.reduceLeDiff, ml_0, ml_1, ml_2, ml_3, ml_4, ml_5, ml_6, ml_7, ml_8, ml_9, ml_10, ml_11, ml_12, ml_13, ml_14, ml_16, ml_31, ml_32, ml_40, ml_42, ml_48, ml_50, ml_57, ml_59, ml_60, ml_63, ml_98, ml_100, ml_103, ml_104, ml_105, ml_106, ml_107, ml_108, ml_109, ml_110, ml_111, ml_112, ml_113, ml_114, ml_115, ml_120, ml_127, ml_176, ml_180, ml_200, ml_254, ml_255, ml_256, ml_300, ml_728, ml_832, ml_65536, rn]
theorem pc_undoCount (hR : mt_R B μ) : mt_A0 B (f_X9_undoCount μ) μ (f_X10_undoCount μ) := by
  obtain ⟨k, h, k8, ⟨nw, -, -, c, -⟩, ⟨d, -⟩, -⟩ := hR.2.1
  refine ⟨nI k, _, ?_, ?_, mt_R_t (t := 0) hR⟩
  · simp (discharger := omega) only [f_X9_undoCount, nI_add, mt_mul, nI_clamp, nI_leI, nI_ltI, nI_eq, mt_in_t, mt_b1, mt_b2, mt_b3, mt_b4, mt_l, mt_g, ↓reduceIte, Nat.reduceEqDiff, Nat.reduceLeDiff, ml_0, ml_1, ml_2, ml_3, ml_4, ml_5, ml_6, ml_7, ml_8, ml_9, ml_10, ml_11, ml_12, ml_13, ml_14, ml_16, ml_31, ml_32, ml_40, ml_42, ml_48, ml_50, ml_57, ml_59, ml_60, ml_63, ml_98, ml_100, ml_103, ml_104, ml_105, ml_106, ml_107, ml_108, ml_109, ml_110, ml_111, ml_112, ml_113, ml_114, ml_115, ml_120, ml_127, ml_176, ml_180, ml_200, ml_254, ml_255, ml_256, ml_300, ml_728, ml_832, ml_65536, c]
  · simp (discharger := omega) only [f_X10_undoCount, nI_add, mt_mul, nI_clamp, nI_leI, nI_ltI, nI_eq, mt_in_t, mt_b1, mt_b2, mt_b3, mt_b4, mt_l, mt_g, ↓reduceIte, Nat.reduceEqDiff, Nat.reduceLeDiff, ml_0, ml_1, ml_2, ml_3, ml_4, ml_5, ml_6, ml_7, ml_8, ml_9, ml_10, ml_11, ml_12, ml_13, ml_14, ml_16, ml_31, ml_32, ml_40, ml_42, ml_48, ml_50, ml_57, ml_59, ml_60, ml_63, ml_98, ml_100, ml_103, ml_104, ml_105, ml_106, ml_107, ml_108, ml_109, ml_110, ml_111, ml_112, ml_113, ml_114, ml_115, ml_120, ml_127, ml_176, ml_180, ml_200, ml_254, ml_255, ml_256, ml_300, ml_728, ml_832, ml_65536, mt_un, d]
theorem pc_lost (hR : mt_R B μ) : mt_A0 B (f_X9_lost μ) μ (f_X10_lost μ) := by
  obtain ⟨σ, hC, hM, hok⟩ := hR.1
  have hk := hok.1
  have h16 := hk.1
  have hM' := mt_M_t (t := 0) hM (by decide)
  have cn := mt_at hM' (i := 0) (by decide)
  have e0 := mc_garmentsAt hC hk (p := 3) (by decide)
  have key : f_X10_lost_L9 1000 (fw_u μ 0 18 0 (nI 0)) (nI 0) (nI 0) = some (fw_u μ 0 18 0 (nI 0), nI (mt_or (fun g => if σ (4 + 6 * g + 4) = 3 then 2 ^ g else 0) (σ 0))) := by
    refine mt_det (fun n (a : Int32) i => f_X10_lost_L9 n (fw_u μ 0 18 0 (nI 0)) a i) (fun i => nI (mt_or (fun g => if σ (4 + 6 * g + 4) = 3 then 2 ^ g else 0) i)) (N := σ 0) ?_ ?_ (n := 1000) (by omega)
    · intro n
      simp (discharger := omega) only [f_X10_lost_L9, nI_add, mt_mul, nI_clamp, nI_leI, nI_ltI, nI_eq, mt_in_t, mt_b1, mt_b2, mt_b3, mt_b4, mt_l, mt_g, ↓reduceIte, Nat.reduceEqDiff, Nat.reduceLeDiff, ml_0, ml_1, ml_2, ml_3, ml_4, ml_5, ml_6, ml_7, ml_8, ml_9, ml_10, ml_11, ml_12, ml_13, ml_14, ml_16, ml_31, ml_32, ml_40, ml_42, ml_48, ml_50, ml_57, ml_59, ml_60, ml_63, ml_98, ml_100, ml_103, ml_104, ml_105, ml_106, ml_107, ml_108, ml_109, ml_110, ml_111, ml_112, ml_113, ml_114, ml_115, ml_120, ml_127, ml_176, ml_180, ml_200, ml_254, ml_255, ml_256, ml_300, ml_728, ml_832, ml_65536, cn, Nat.le_refl]
    · intro n i hi
      have r4 := mr_of hM' (g := i) (w := 4) (by omega) (by decide)
      have b4 := (hk.2 i hi).2.2.2.2
      have hi' : ¬ σ 0 ≤ i := by omega
      by_cases p : σ (4 + 6 * i + 4) = 3 <;> simp (discharger := omega) only [f_X10_lost_L9, nI_add, mt_mul, nI_clamp, nI_leI, nI_ltI, nI_eq, mt_in_t, mt_b1, mt_b2, mt_b3, mt_b4, mt_l, mt_g, ↓reduceIte, Nat.reduceEqDiff, Nat.reduceLeDiff, ml_0, ml_1, ml_2, ml_3, ml_4, ml_5, ml_6, ml_7, ml_8, ml_9, ml_10, ml_11, ml_12, ml_13, ml_14, ml_16, ml_31, ml_32, ml_40, ml_42, ml_48, ml_50, ml_57, ml_59, ml_60, ml_63, ml_98, ml_100, ml_103, ml_104, ml_105, ml_106, ml_107, ml_108, ml_109, ml_110, ml_111, ml_112, ml_113, ml_114, ml_115, ml_120, ml_127, ml_176, ml_180, ml_200, ml_254, ml_255, ml_256, ml_300, ml_728, ml_832, ml_65536, cn, hi', r4, p, mt_or, mt_shl, fa_or]
  refine ⟨nI (mt_or (fun g => if σ (4 + 6 * g + 4) = 3 then 2 ^ g else 0) (σ 0)), _, ?_, ?_, mt_R_t (t := 0) hR⟩
  · simp (discharger := omega) only [f_X9_lost, nI_add, mt_mul, nI_clamp, nI_leI, nI_ltI, nI_eq, mt_in_t, mt_b1, mt_b2, mt_b3, mt_b4, mt_l, mt_g, ↓reduceIte, Nat.reduceEqDiff, Nat.reduceLeDiff, ml_0, ml_1, ml_2, ml_3, ml_4, ml_5, ml_6, ml_7, ml_8, ml_9, ml_10, ml_11, ml_12, ml_13, ml_14, ml_16, ml_31, ml_32, ml_40, ml_42, ml_48, ml_50, ml_57, ml_59, ml_60, ml_63, ml_98, ml_100, ml_103, ml_104, ml_105, ml_106, ml_107, ml_108, ml_109, ml_110, ml_111, ml_112, ml_113, ml_114, ml_115, ml_120, ml_127, ml_176, ml_180, ml_200, ml_254, ml_255, ml_256, ml_300, ml_728, ml_832, ml_65536, e0]
  · simp (discharger := omega) only [f_X10_lost, nI_add, mt_mul, nI_clamp, nI_leI, nI_ltI, nI_eq, mt_in_t, mt_b1, mt_b2, mt_b3, mt_b4, mt_l, mt_g, ↓reduceIte, Nat.reduceEqDiff, Nat.reduceLeDiff, ml_0, ml_1, ml_2, ml_3, ml_4, ml_5, ml_6, ml_7, ml_8, ml_9, ml_10, ml_11, ml_12, ml_13, ml_14, ml_16, ml_31, ml_32, ml_40, ml_42, ml_48, ml_50, ml_57, ml_59, ml_60, ml_63, ml_98, ml_100, ml_103, ml_104, ml_105, ml_106, ml_107, ml_108, ml_109, ml_110, ml_111, ml_112, ml_113, ml_114, ml_115, ml_120, ml_127, ml_176, ml_180, ml_200, ml_254, ml_255, ml_256, ml_300, ml_728, ml_832, ml_65536, key]
theorem pc_isConsistent (hR : mt_R B μ) : ∃ a, f_X9_isConsistent μ = some (a, nI 1) ∧ f_X10_isConsistent a = some (fw_u a 0 18 0 (nI 0), nI 1) ∧ mt_R B (fw_u a 0 18 0 (nI 0)) := by
  obtain ⟨σ, hC, hM, hok⟩ := hR.1
  have hk := hok.1
  have key : ∃ a, f_X9_machinesAgree μ = some (a, nI 1) ∧ mt_fr (mt_sC 1) μ a := by
    unfold f_X9_machinesAgree
    refine mt_while (L := fun n (a : fw_M) i => f_X9_machinesAgree_L2 n a i) (I := fun i a => mt_fr (mt_sC 1) μ a) (P := fun r => ∃ a, r = some (a, nI 1) ∧ mt_fr (mt_sC 1) μ a) (N := 2) ?_ ?_ 2 1000 μ 0 (by omega) (by omega) mt_fr_r
    · intro n a h
      refine ⟨a, ?_, h⟩
      simp (discharger := omega) only [f_X9_machinesAgree_L2, nI_add, mt_mul, nI_clamp, nI_leI, nI_ltI, nI_eq, mt_in_t, mt_b1, mt_b2, mt_b3, mt_b4, mt_l, mt_g, ↓reduceIte, Nat.reduceEqDiff, Nat.reduceLeDiff, ml_0, ml_1, ml_2, ml_3, ml_4, ml_5, ml_6, ml_7, ml_8, ml_9, ml_10, ml_11, ml_12, ml_13, ml_14, ml_16, ml_31, ml_32, ml_40, ml_42, ml_48, ml_50, ml_57, ml_59, ml_60, ml_63, ml_98, ml_100, ml_103, ml_104, ml_105, ml_106, ml_107, ml_108, ml_109, ml_110, ml_111, ml_112, ml_113, ml_114, ml_115, ml_120, ml_127, ml_176, ml_180, ml_200, ml_254, ml_255, ml_256, ml_300, ml_728, ml_832, ml_65536, Nat.le_refl]
    · intro n a i hi h
      have hCa : mt_C a 0 σ := mt_C_k hC (fun f _ => h 0 f (mt_sC_f (Or.inl (by decide))))
      have hh := hok.2.2.1 i hi
      have h5 := hok.2.2.2.1 i hi
      have ch := hCa.2.2.1 i hi
      have e1 := mc_damageFromSets hCa hk hi (h := σ (2 + i)) (by omega)
      obtain ⟨b, e2, F2⟩ := mc_trial hCa hk hi (by omega)
      have hCb : mt_C b 0 σ := mt_C_k hCa (fun f _ => F2 0 f (mt_sC_f (Or.inl (by decide))))
      have e3 := mc_countIn hCb hk hi
      have hi' : ¬ 2 ≤ i := by omega
      left
      refine ⟨b, mt_fr_t h F2, ?_⟩
      simp (discharger := omega) only [f_X9_machinesAgree_L2, nI_add, mt_mul, nI_clamp, nI_leI, nI_ltI, nI_eq, mt_in_t, mt_b1, mt_b2, mt_b3, mt_b4, mt_l, mt_g, ↓reduceIte, Nat.reduceEqDiff, Nat.reduceLeDiff, ml_0, ml_1, ml_2, ml_3, ml_4, ml_5, ml_6, ml_7, ml_8, ml_9, ml_10, ml_11, ml_12, ml_13, ml_14, ml_16, ml_31, ml_32, ml_40, ml_42, ml_48, ml_50, ml_57, ml_59, ml_60, ml_63, ml_98, ml_100, ml_103, ml_104, ml_105, ml_106, ml_107, ml_108, ml_109, ml_110, ml_111, ml_112, ml_113, ml_114, ml_115, ml_120, ml_127, ml_176, ml_180, ml_200, ml_254, ml_255, ml_256, ml_300, ml_728, ml_832, ml_65536, hi', ch, e1, e2, e3, h5]
  obtain ⟨a, e1, F1⟩ := key
  have hR' := mt_R_s hR (mt_fr_same F1)
  have hCa : mt_C a 0 σ := mt_C_k hC (fun f _ => F1 0 f (mt_sC_f (Or.inl (by decide))))
  have key2 : f_X9_pairsAgree a = some (nI 1) := by
    unfold f_X9_pairsAgree
    refine mt_det (fun n (_ : Unit) i => f_X9_pairsAgree_L2 a n i) (fun _ => ()) (N := 4) ?_ ?_ (n := 1000) (by omega)
    · intro n
      simp (discharger := omega) only [f_X9_pairsAgree_L2, nI_add, mt_mul, nI_clamp, nI_leI, nI_ltI, nI_eq, mt_in_t, mt_b1, mt_b2, mt_b3, mt_b4, mt_l, mt_g, ↓reduceIte, Nat.reduceEqDiff, Nat.reduceLeDiff, ml_0, ml_1, ml_2, ml_3, ml_4, ml_5, ml_6, ml_7, ml_8, ml_9, ml_10, ml_11, ml_12, ml_13, ml_14, ml_16, ml_31, ml_32, ml_40, ml_42, ml_48, ml_50, ml_57, ml_59, ml_60, ml_63, ml_98, ml_100, ml_103, ml_104, ml_105, ml_106, ml_107, ml_108, ml_109, ml_110, ml_111, ml_112, ml_113, ml_114, ml_115, ml_120, ml_127, ml_176, ml_180, ml_200, ml_254, ml_255, ml_256, ml_300, ml_728, ml_832, ml_65536, Nat.le_refl]
    · intro n i hi
      have e2 := mc_formed hCa hk hi
      have e3 := mc_byParity hCa hk hi
      have hi' : ¬ 4 ≤ i := by omega
      simp (discharger := omega) only [f_X9_pairsAgree_L2, nI_add, mt_mul, nI_clamp, nI_leI, nI_ltI, nI_eq, mt_in_t, mt_b1, mt_b2, mt_b3, mt_b4, mt_l, mt_g, ↓reduceIte, Nat.reduceEqDiff, Nat.reduceLeDiff, ml_0, ml_1, ml_2, ml_3, ml_4, ml_5, ml_6, ml_7, ml_8, ml_9, ml_10, ml_11, ml_12, ml_13, ml_14, ml_16, ml_31, ml_32, ml_40, ml_42, ml_48, ml_50, ml_57, ml_59, ml_60, ml_63, ml_98, ml_100, ml_103, ml_104, ml_105, ml_106, ml_107, ml_108, ml_109, ml_110, ml_111, ml_112, ml_113, ml_114, ml_115, ml_120, ml_127, ml_176, ml_180, ml_200, ml_254, ml_255, ml_256, ml_300, ml_728, ml_832, ml_65536, hi', e2, e3]
  refine ⟨a, ?_, ?_, mt_R_t hR'⟩
  · simp (discharger := omega) only [f_X9_isConsistent, nI_add, mt_mul, nI_clamp, nI_leI, nI_ltI, nI_eq, mt_in_t, mt_b1, mt_b2, mt_b3, mt_b4, mt_l, mt_g, ↓reduceIte, Nat.reduceEqDiff, Nat.reduceLeDiff, ml_0, ml_1, ml_2, ml_3, ml_4, ml_5, ml_6, ml_7, ml_8, ml_9, ml_10, ml_11, ml_12, ml_13, ml_14, ml_16, ml_31, ml_32, ml_40, ml_42, ml_48, ml_50, ml_57, ml_59, ml_60, ml_63, ml_98, ml_100, ml_103, ml_104, ml_105, ml_106, ml_107, ml_108, ml_109, ml_110, ml_111, ml_112, ml_113, ml_114, ml_115, ml_120, ml_127, ml_176, ml_180, ml_200, ml_254, ml_255, ml_256, ml_300, ml_728, ml_832, ml_65536, e1, key2]
  · simp (discharger := omega) only [f_X10_isConsistent, nI_add, mt_mul, nI_clamp, nI_leI, nI_ltI, nI_eq, mt_in_t, mt_b1, mt_b2, mt_b3, mt_b4, mt_l, mt_g, ↓reduceIte, Nat.reduceEqDiff, Nat.reduceLeDiff, ml_0, ml_1, ml_2, ml_3, ml_4, ml_5, ml_6, ml_7, ml_8, ml_9, ml_10, ml_11, ml_12, ml_13, ml_14, ml_16, ml_31, ml_32, ml_40, ml_42, ml_48, ml_50, ml_57, ml_59, ml_60, ml_63, ml_98, ml_100, ml_103, ml_104, ml_105, ml_106, ml_107, ml_108, ml_109, ml_110, ml_111, ml_112, ml_113, ml_114, ml_115, ml_120, ml_127, ml_176, ml_180, ml_200, ml_254, ml_255, ml_256, ml_300, ml_728, ml_832, ml_65536]
end PS
