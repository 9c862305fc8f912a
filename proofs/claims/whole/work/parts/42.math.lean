/-! the mathematics, 3: what the class's State j says when it is read -/
section MC
variable {μ : fw_M} {j : Nat} {σ : Nat → Nat}
theorem mc_isIn (hC : mt_C μ j σ) (hok : mt_k σ) {g m : Nat} (hg : g < σ 0) (hm : m < 2) : f_X7_isIn μ j (nI g) (nI m) = some (nI (if σ (4 + 6 * g + 4) = m + 1 then 1 else 0)) := by
  obtain ⟨cn, cr, ch, cp, c0, c1, c2, c3, c4, c5⟩ := hC
  obtain ⟨h16, hG⟩ := hok
  have b4 := (hG g hg).2.2.2.2
  have e4 := c4 g hg
  by_cases h : σ (4 + 6 * g + 4) = m + 1 <;> simp (discharger := omega) only [f_X7_isIn, Nat.add_comm 1, nI_add, mt_mul, nI_clamp, nI_leI, nI_ltI, nI_eq, mt_in_t, mt_b1, mt_b2, mt_b3, mt_b4, mt_l, mt_g, ↓reduceIte, Nat.reduceEqDiff, Nat.reduceLeDiff, ml_0, ml_1, ml_2, ml_3, ml_4, ml_5, ml_6, ml_7, ml_8, ml_9, ml_10, ml_11, ml_12, ml_13, ml_14, ml_16, ml_31, ml_32, ml_40, ml_42, ml_48, ml_50, ml_57, ml_59, ml_60, ml_63, ml_98, ml_100, ml_103, ml_104, ml_105, ml_106, ml_107, ml_108, ml_109, ml_110, ml_111, ml_112, ml_113, ml_114, ml_115, ml_120, ml_127, ml_176, ml_180, ml_200, ml_254, ml_255, ml_256, ml_300, ml_728, ml_832, ml_65536, e4, h]
theorem mc_isInBagOf (hC : mt_C μ j σ) (hok : mt_k σ) {g c : Nat} (hg : g < σ 0) (hc : c < 4) : f_X7_isInBagOf μ j (nI g) (nI c) = some (nI (if σ (4 + 6 * g + 4) = 0 ∧ σ (4 + 6 * g + 0) = c then 1 else 0)) := by
  obtain ⟨cn, cr, ch, cp, c0, c1, c2, c3, c4, c5⟩ := hC
  obtain ⟨h16, hG⟩ := hok
  have b4 := (hG g hg).2.2.2.2
  have b0 := (hG g hg).1
  have e4 := c4 g hg
  have e0 := c0 g hg
  by_cases h : σ (4 + 6 * g + 4) = 0 <;> by_cases h' : σ (4 + 6 * g + 0) = c <;> simp (discharger := omega) only [f_X7_isInBagOf, nI_add, mt_mul, nI_clamp, nI_leI, nI_ltI, nI_eq, mt_in_t, mt_b1, mt_b2, mt_b3, mt_b4, mt_l, mt_g, ↓reduceIte, Nat.reduceEqDiff, Nat.reduceLeDiff, ml_0, ml_1, ml_2, ml_3, ml_4, ml_5, ml_6, ml_7, ml_8, ml_9, ml_10, ml_11, ml_12, ml_13, ml_14, ml_16, ml_31, ml_32, ml_40, ml_42, ml_48, ml_50, ml_57, ml_59, ml_60, ml_63, ml_98, ml_100, ml_103, ml_104, ml_105, ml_106, ml_107, ml_108, ml_109, ml_110, ml_111, ml_112, ml_113, ml_114, ml_115, ml_120, ml_127, ml_176, ml_180, ml_200, ml_254, ml_255, ml_256, ml_300, ml_728, ml_832, ml_65536, e4, e0, h, h', and_true, true_and, false_and, and_false]
theorem mc_stainsOn (hC : mt_C μ j σ) (hok : mt_k σ) {g : Nat} (hg : g < σ 0) : f_X7_stainsOn μ j (nI g) = some (nI (ms_pc (σ (4 + 6 * g + 3)))) := by
  obtain ⟨cn, cr, ch, cp, c0, c1, c2, c3, c4, c5⟩ := hC
  obtain ⟨h16, hG⟩ := hok
  have b3 := (hG g hg).2.2.2.1
  have e3 := c3 g hg
  simp (discharger := omega) only [f_X7_stainsOn, nI_add, mt_mul, nI_clamp, nI_leI, nI_ltI, nI_eq, mt_in_t, mt_b1, mt_b2, mt_b3, mt_b4, mt_l, mt_g, ↓reduceIte, Nat.reduceEqDiff, Nat.reduceLeDiff, ml_0, ml_1, ml_2, ml_3, ml_4, ml_5, ml_6, ml_7, ml_8, ml_9, ml_10, ml_11, ml_12, ml_13, ml_14, ml_16, ml_31, ml_32, ml_40, ml_42, ml_48, ml_50, ml_57, ml_59, ml_60, ml_63, ml_98, ml_100, ml_103, ml_104, ml_105, ml_106, ml_107, ml_108, ml_109, ml_110, ml_111, ml_112, ml_113, ml_114, ml_115, ml_120, ml_127, ml_176, ml_180, ml_200, ml_254, ml_255, ml_256, ml_300, ml_728, ml_832, ml_65536, e3, mt_bc]
theorem mc_garmentsAt (hC : mt_C μ j σ) (hok : mt_k σ) {p : Nat} (hp : p < 4) : f_X7_garmentsAt μ j (nI p) = some (nI (mt_or (fun g => if σ (4 + 6 * g + 4) = p then 2 ^ g else 0) (σ 0))) := by
  obtain ⟨cn, cr, ch, cp, c0, c1, c2, c3, c4, c5⟩ := hC
  obtain ⟨h16, hG⟩ := hok
  unfold f_X7_garmentsAt
  refine mt_det (fun n (a : Int32) i => f_X7_garmentsAt_L4 μ j n (nI p) a i) (fun i => nI (mt_or (fun g => if σ (4 + 6 * g + 4) = p then 2 ^ g else 0) i)) (N := σ 0) ?_ ?_ (n := 1000) (by omega)
  · intro n
    simp (discharger := omega) only [f_X7_garmentsAt_L4, nI_add, mt_mul, nI_clamp, nI_leI, nI_ltI, nI_eq, mt_in_t, mt_b1, mt_b2, mt_b3, mt_b4, mt_l, mt_g, ↓reduceIte, Nat.reduceEqDiff, Nat.reduceLeDiff, ml_0, ml_1, ml_2, ml_3, ml_4, ml_5, ml_6, ml_7, ml_8, ml_9, ml_10, ml_11, ml_12, ml_13, ml_14, ml_16, ml_31, ml_32, ml_40, ml_42, ml_48, ml_50, ml_57, ml_59, ml_60, ml_63, ml_98, ml_100, ml_103, ml_104, ml_105, ml_106, ml_107, ml_108, ml_109, ml_110, ml_111, ml_112, ml_113, ml_114, ml_115, ml_120, ml_127, ml_176, ml_180, ml_200, ml_254, ml_255, ml_256, ml_300, ml_728, ml_832, ml_65536, cn, Nat.le_refl]
  · intro n i hi
    have b4 := (hG i hi).2.2.2.2
    have e4 := c4 i hi
    have hi' : ¬ σ 0 ≤ i := by omega
    by_cases h : σ (4 + 6 * i + 4) = p <;> simp (discharger := omega) only [f_X7_garmentsAt_L4, nI_add, mt_mul, nI_clamp, nI_leI, nI_ltI, nI_eq, mt_in_t, mt_b1, mt_b2, mt_b3, mt_b4, mt_l, mt_g, ↓reduceIte, Nat.reduceEqDiff, Nat.reduceLeDiff, ml_0, ml_1, ml_2, ml_3, ml_4, ml_5, ml_6, ml_7, ml_8, ml_9, ml_10, ml_11, ml_12, ml_13, ml_14, ml_16, ml_31, ml_32, ml_40, ml_42, ml_48, ml_50, ml_57, ml_59, ml_60, ml_63, ml_98, ml_100, ml_103, ml_104, ml_105, ml_106, ml_107, ml_108, ml_109, ml_110, ml_111, ml_112, ml_113, ml_114, ml_115, ml_120, ml_127, ml_176, ml_180, ml_200, ml_254, ml_255, ml_256, ml_300, ml_728, ml_832, ml_65536, cn, e4, hi', h, mt_or, mt_shl, fa_or, Nat.or_zero]
theorem mc_countIn (hC : mt_C μ j σ) (hok : mt_k σ) {m : Nat} (hm : m < 2) : f_X7_countIn μ j (nI m) = some (nI (ms_held σ m)) := by
  have h1 := mc_garmentsAt hC hok (p := m + 1) (by omega)
  have h2 := mt_bcm (μ := μ) hok.1 (f := fun g => if σ (4 + 6 * g + 4) = m + 1 then 2 ^ g else 0) (h := fun g => if σ (4 + 6 * g + 4) = m + 1 then 1 else 0) (fun g _ => by
    by_cases h : σ (4 + 6 * g + 4) = m + 1
    · exact Or.inl ⟨if_pos h, if_pos h⟩
    · exact Or.inr ⟨if_neg h, if_neg h⟩)
  simp (discharger := omega) only [f_X7_countIn, Nat.add_comm 1, nI_add, mt_mul, nI_clamp, nI_leI, nI_ltI, nI_eq, mt_in_t, mt_b1, mt_b2, mt_b3, mt_b4, mt_l, mt_g, ↓reduceIte, Nat.reduceEqDiff, Nat.reduceLeDiff, ml_0, ml_1, ml_2, ml_3, ml_4, ml_5, ml_6, ml_7, ml_8, ml_9, ml_10, ml_11, ml_12, ml_13, ml_14, ml_16, ml_31, ml_32, ml_40, ml_42, ml_48, ml_50, ml_57, ml_59, ml_60, ml_63, ml_98, ml_100, ml_103, ml_104, ml_105, ml_106, ml_107, ml_108, ml_109, ml_110, ml_111, ml_112, ml_113, ml_114, ml_115, ml_120, ml_127, ml_176, ml_180, ml_200, ml_254, ml_255, ml_256, ml_300, ml_728, ml_832, ml_65536, h1, h2]
  rfl
theorem mc_garmentsInBag (hC : mt_C μ j σ) (hok : mt_k σ) {c : Nat} (hc : c < 4) : f_X7_garmentsInBag μ j (nI c) = some (nI (mt_or (fun g => if σ (4 + 6 * g + 4) = 0 ∧ σ (4 + 6 * g + 0) = c then 2 ^ g else 0) (σ 0))) := by
  have h16 := hok.1
  have cn := hC.1
  unfold f_X7_garmentsInBag
  refine mt_det (fun n (a : Int32) i => f_X7_garmentsInBag_L4 μ j n (nI c) a i) (fun i => nI (mt_or (fun g => if σ (4 + 6 * g + 4) = 0 ∧ σ (4 + 6 * g + 0) = c then 2 ^ g else 0) i)) (N := σ 0) ?_ ?_ (n := 1000) (by omega)
  · intro n
    simp (discharger := omega) only [f_X7_garmentsInBag_L4, nI_add, mt_mul, nI_clamp, nI_leI, nI_ltI, nI_eq, mt_in_t, mt_b1, mt_b2, mt_b3, mt_b4, mt_l, mt_g, ↓reduceIte, Nat.reduceEqDiff, Nat.reduceLeDiff, ml_0, ml_1, ml_2, ml_3, ml_4, ml_5, ml_6, ml_7, ml_8, ml_9, ml_10, ml_11, ml_12, ml_13, ml_14, ml_16, ml_31, ml_32, ml_40, ml_42, ml_48, ml_50, ml_57, ml_59, ml_60, ml_63, ml_98, ml_100, ml_103, ml_104, ml_105, ml_106, ml_107, ml_108, ml_109, ml_110, ml_111, ml_112, ml_113, ml_114, ml_115, ml_120, ml_127, ml_176, ml_180, ml_200, ml_254, ml_255, ml_256, ml_300, ml_728, ml_832, ml_65536, cn, Nat.le_refl]
  · intro n i hi
    have e := mc_isInBagOf hC hok hi hc
    have hi' : ¬ σ 0 ≤ i := by omega
    by_cases h : σ (4 + 6 * i + 4) = 0 ∧ σ (4 + 6 * i + 0) = c <;> simp (discharger := omega) only [f_X7_garmentsInBag_L4, nI_add, mt_mul, nI_clamp, nI_leI, nI_ltI, nI_eq, mt_in_t, mt_b1, mt_b2, mt_b3, mt_b4, mt_l, mt_g, ↓reduceIte, Nat.reduceEqDiff, Nat.reduceLeDiff, ml_0, ml_1, ml_2, ml_3, ml_4, ml_5, ml_6, ml_7, ml_8, ml_9, ml_10, ml_11, ml_12, ml_13, ml_14, ml_16, ml_31, ml_32, ml_40, ml_42, ml_48, ml_50, ml_57, ml_59, ml_60, ml_63, ml_98, ml_100, ml_103, ml_104, ml_105, ml_106, ml_107, ml_108, ml_109, ml_110, ml_111, ml_112, ml_113, ml_114, ml_115, ml_120, ml_127, ml_176, ml_180, ml_200, ml_254, ml_255, ml_256, ml_300, ml_728, ml_832, ml_65536, cn, e, hi', if_pos, if_neg, h, mt_or, mt_shl, fa_or, Nat.or_zero, not_false_eq_true, and_self]
theorem mc_stainsOfAllIn (hC : mt_C μ j σ) (hok : mt_k σ) {m : Nat} (hm : m < 2) : f_X7_stainsOfAllIn μ j (nI m) = some (nI (mt_an (fun g => if σ (4 + 6 * g + 4) = m + 1 then σ (4 + 6 * g + 3) else 255) (σ 0))) := by
  have h16 := hok.1
  have cn := hC.1
  have c3 := hC.2.2.2.2.2.2.2.1
  unfold f_X7_stainsOfAllIn
  refine mt_det (fun n (a : Int32) i => f_X7_stainsOfAllIn_L6 μ j n (nI m) a i) (fun i => nI (mt_an (fun g => if σ (4 + 6 * g + 4) = m + 1 then σ (4 + 6 * g + 3) else 255) i)) (N := σ 0) ?_ ?_ (n := 1000) (by omega)
  · intro n
    simp (discharger := omega) only [f_X7_stainsOfAllIn_L6, nI_add, mt_mul, nI_clamp, nI_leI, nI_ltI, nI_eq, mt_in_t, mt_b1, mt_b2, mt_b3, mt_b4, mt_l, mt_g, ↓reduceIte, Nat.reduceEqDiff, Nat.reduceLeDiff, ml_0, ml_1, ml_2, ml_3, ml_4, ml_5, ml_6, ml_7, ml_8, ml_9, ml_10, ml_11, ml_12, ml_13, ml_14, ml_16, ml_31, ml_32, ml_40, ml_42, ml_48, ml_50, ml_57, ml_59, ml_60, ml_63, ml_98, ml_100, ml_103, ml_104, ml_105, ml_106, ml_107, ml_108, ml_109, ml_110, ml_111, ml_112, ml_113, ml_114, ml_115, ml_120, ml_127, ml_176, ml_180, ml_200, ml_254, ml_255, ml_256, ml_300, ml_728, ml_832, ml_65536, cn, Nat.le_refl]
  · intro n i hi
    have e := mc_isIn hC hok hi hm
    have e3 := c3 i hi
    have hi' : ¬ σ 0 ≤ i := by omega
    have hm : ∀ x, x < 256 → x &&& 255 = x := by decide +kernel
    have hq := hm _ (mt_an_lt (f := fun g => if σ (4 + 6 * g + 4) = m + 1 then σ (4 + 6 * g + 3) else 255) i)
    by_cases h : σ (4 + 6 * i + 4) = m + 1 <;> simp (discharger := omega) only [f_X7_stainsOfAllIn_L6, nI_add, mt_mul, nI_clamp, nI_leI, nI_ltI, nI_eq, mt_in_t, mt_b1, mt_b2, mt_b3, mt_b4, mt_l, mt_g, ↓reduceIte, Nat.reduceEqDiff, Nat.reduceLeDiff, ml_0, ml_1, ml_2, ml_3, ml_4, ml_5, ml_6, ml_7, ml_8, ml_9, ml_10, ml_11, ml_12, ml_13, ml_14, ml_16, ml_31, ml_32, ml_40, ml_42, ml_48, ml_50, ml_57, ml_59, ml_60, ml_63, ml_98, ml_100, ml_103, ml_104, ml_105, ml_106, ml_107, ml_108, ml_109, ml_110, ml_111, ml_112, ml_113, ml_114, ml_115, ml_120, ml_127, ml_176, ml_180, ml_200, ml_254, ml_255, ml_256, ml_300, ml_728, ml_832, ml_65536, cn, e, e3, hi', h, mt_an, fa_and, hq]
theorem mc_coloursOfLoad (hC : mt_C μ j σ) (hok : mt_k σ) {m : Nat} (hm : m < 2) : f_X7_coloursOfLoad μ j (nI m) = some (nI (mt_or (fun g => if σ (4 + 6 * g + 4) = m + 1 then 2 ^ σ (4 + 6 * g + 2) else 0) (σ 0))) := by
  have h16 := hok.1
  have hG := hok.2
  have cn := hC.1
  have c2 := hC.2.2.2.2.2.2.1
  unfold f_X7_coloursOfLoad
  refine mt_det (fun n (a : Int32) i => f_X7_coloursOfLoad_L4 μ j n (nI m) a i) (fun i => nI (mt_or (fun g => if σ (4 + 6 * g + 4) = m + 1 then 2 ^ σ (4 + 6 * g + 2) else 0) i)) (N := σ 0) ?_ ?_ (n := 1000) (by omega)
  · intro n
    simp (discharger := omega) only [f_X7_coloursOfLoad_L4, nI_add, mt_mul, nI_clamp, nI_leI, nI_ltI, nI_eq, mt_in_t, mt_b1, mt_b2, mt_b3, mt_b4, mt_l, mt_g, ↓reduceIte, Nat.reduceEqDiff, Nat.reduceLeDiff, ml_0, ml_1, ml_2, ml_3, ml_4, ml_5, ml_6, ml_7, ml_8, ml_9, ml_10, ml_11, ml_12, ml_13, ml_14, ml_16, ml_31, ml_32, ml_40, ml_42, ml_48, ml_50, ml_57, ml_59, ml_60, ml_63, ml_98, ml_100, ml_103, ml_104, ml_105, ml_106, ml_107, ml_108, ml_109, ml_110, ml_111, ml_112, ml_113, ml_114, ml_115, ml_120, ml_127, ml_176, ml_180, ml_200, ml_254, ml_255, ml_256, ml_300, ml_728, ml_832, ml_65536, cn, Nat.le_refl]
  · intro n i hi
    have e := mc_isIn hC hok hi hm
    have e2 := c2 i hi
    have b2 := (hG i hi).2.2.1
    have hi' : ¬ σ 0 ≤ i := by omega
    by_cases h : σ (4 + 6 * i + 4) = m + 1 <;> simp (discharger := omega) only [f_X7_coloursOfLoad_L4, nI_add, mt_mul, nI_clamp, nI_leI, nI_ltI, nI_eq, mt_in_t, mt_b1, mt_b2, mt_b3, mt_b4, mt_l, mt_g, ↓reduceIte, Nat.reduceEqDiff, Nat.reduceLeDiff, ml_0, ml_1, ml_2, ml_3, ml_4, ml_5, ml_6, ml_7, ml_8, ml_9, ml_10, ml_11, ml_12, ml_13, ml_14, ml_16, ml_31, ml_32, ml_40, ml_42, ml_48, ml_50, ml_57, ml_59, ml_60, ml_63, ml_98, ml_100, ml_103, ml_104, ml_105, ml_106, ml_107, ml_108, ml_109, ml_110, ml_111, ml_112, ml_113, ml_114, ml_115, ml_120, ml_127, ml_176, ml_180, ml_200, ml_254, ml_255, ml_256, ml_300, ml_728, ml_832, ml_65536, cn, e, e2, hi', h, mt_or, mt_shl, fa_or, Nat.or_zero]
def ms_gr (σ : Nat → Nat) (m : Nat) : Nat := mt_mx (fun g => if σ (4 + 6 * g + 4) = m + 1 then σ (4 + 6 * g + 2) else 0) (σ 0)
theorem mc_greatest (hC : mt_C μ j σ) (hok : mt_k σ) {m : Nat} (hm : m < 2) : f_X7_greatestColourIn μ j (nI m) = some (nI (ms_gr σ m)) := by
  have h16 := hok.1
  have hG := hok.2
  have cn := hC.1
  have c2 := hC.2.2.2.2.2.2.1
  unfold f_X7_greatestColourIn ms_gr
  refine mt_det (fun n (a : Int32) i => f_X7_greatestColourIn_L4 μ j n (nI m) a i) (fun i => nI (mt_mx (fun g => if σ (4 + 6 * g + 4) = m + 1 then σ (4 + 6 * g + 2) else 0) i)) (N := σ 0) ?_ ?_ (n := 1000) (by omega)
  · intro n
    simp (discharger := omega) only [f_X7_greatestColourIn_L4, nI_add, mt_mul, nI_clamp, nI_leI, nI_ltI, nI_eq, mt_in_t, mt_b1, mt_b2, mt_b3, mt_b4, mt_l, mt_g, ↓reduceIte, Nat.reduceEqDiff, Nat.reduceLeDiff, ml_0, ml_1, ml_2, ml_3, ml_4, ml_5, ml_6, ml_7, ml_8, ml_9, ml_10, ml_11, ml_12, ml_13, ml_14, ml_16, ml_31, ml_32, ml_40, ml_42, ml_48, ml_50, ml_57, ml_59, ml_60, ml_63, ml_98, ml_100, ml_103, ml_104, ml_105, ml_106, ml_107, ml_108, ml_109, ml_110, ml_111, ml_112, ml_113, ml_114, ml_115, ml_120, ml_127, ml_176, ml_180, ml_200, ml_254, ml_255, ml_256, ml_300, ml_728, ml_832, ml_65536, cn, Nat.le_refl]
  · intro n i hi
    have e := mc_isIn hC hok hi hm
    have e2 := c2 i hi
    have b2 := (hG i hi).2.2.1
    have hi' : ¬ σ 0 ≤ i := by omega
    have hx : mt_mx (fun g => if σ (4 + 6 * g + 4) = m + 1 then σ (4 + 6 * g + 2) else 0) i < 8 := mt_mx_lt (by decide) (fun g hg => by
      have := (hG g (by omega)).2.2.1
      split <;> omega)
    by_cases h : σ (4 + 6 * i + 4) = m + 1
    · by_cases h2 : mt_mx (fun g => if σ (4 + 6 * g + 4) = m + 1 then σ (4 + 6 * g + 2) else 0) i < σ (4 + 6 * i + 2) <;> simp (discharger := omega) only [f_X7_greatestColourIn_L4, nI_add, mt_mul, nI_clamp, nI_leI, nI_ltI, nI_eq, mt_in_t, mt_b1, mt_b2, mt_b3, mt_b4, mt_l, mt_g, ↓reduceIte, Nat.reduceEqDiff, Nat.reduceLeDiff, ml_0, ml_1, ml_2, ml_3, ml_4, ml_5, ml_6, ml_7, ml_8, ml_9, ml_10, ml_11, ml_12, ml_13, ml_14, ml_16, ml_31, ml_32, ml_40, ml_42, ml_48, ml_50, ml_57, ml_59, ml_60, ml_63, ml_98, ml_100, ml_103, ml_104, ml_105, ml_106, ml_107, ml_108, ml_109, ml_110, ml_111, ml_112, ml_113, ml_114, ml_115, ml_120, ml_127, ml_176, ml_180, ml_200, ml_254, ml_255, ml_256, ml_300, ml_728, ml_832, ml_65536, cn, e, e2, hi', h, h2, mt_mx]
    · simp (discharger := omega) only [f_X7_greatestColourIn_L4, nI_add, mt_mul, nI_clamp, nI_leI, nI_ltI, nI_eq, mt_in_t, mt_b1, mt_b2, mt_b3, mt_b4, mt_l, mt_g, ↓reduceIte, Nat.reduceEqDiff, Nat.reduceLeDiff, ml_0, ml_1, ml_2, ml_3, ml_4, ml_5, ml_6, ml_7, ml_8, ml_9, ml_10, ml_11, ml_12, ml_13, ml_14, ml_16, ml_31, ml_32, ml_40, ml_42, ml_48, ml_50, ml_57, ml_59, ml_60, ml_63, ml_98, ml_100, ml_103, ml_104, ml_105, ml_106, ml_107, ml_108, ml_109, ml_110, ml_111, ml_112, ml_113, ml_114, ml_115, ml_120, ml_127, ml_176, ml_180, ml_200, ml_254, ml_255, ml_256, ml_300, ml_728, ml_832, ml_65536, cn, e, e2, hi', h, mt_mx, Nat.not_lt_zero]
def ms_wb (h : Nat) : Nat := mt_or (fun k => if h < 50 + 10 * k then 0 else 2 ^ k) 8
theorem mc_removedAt {h : Nat} (hh : h < 1000) : f_X8_removedAt μ (nI h) = some (nI (ms_wb h)) := by
  unfold f_X8_removedAt ms_wb
  refine mt_det (fun n (a : Int32) i => f_X8_removedAt_L4 μ n (nI h) a i) (fun i => nI (mt_or (fun k => if h < 50 + 10 * k then 0 else 2 ^ k) i)) (N := 8) ?_ ?_ (n := 1000) (by omega)
  · intro n
    simp (discharger := omega) only [f_X8_removedAt_L4, nI_add, mt_mul, nI_clamp, nI_leI, nI_ltI, nI_eq, mt_in_t, mt_b1, mt_b2, mt_b3, mt_b4, mt_l, mt_g, ↓reduceIte, Nat.reduceEqDiff, Nat.reduceLeDiff, ml_0, ml_1, ml_2, ml_3, ml_4, ml_5, ml_6, ml_7, ml_8, ml_9, ml_10, ml_11, ml_12, ml_13, ml_14, ml_16, ml_31, ml_32, ml_40, ml_42, ml_48, ml_50, ml_57, ml_59, ml_60, ml_63, ml_98, ml_100, ml_103, ml_104, ml_105, ml_106, ml_107, ml_108, ml_109, ml_110, ml_111, ml_112, ml_113, ml_114, ml_115, ml_120, ml_127, ml_176, ml_180, ml_200, ml_254, ml_255, ml_256, ml_300, ml_728, ml_832, ml_65536, Nat.le_refl]
  · intro n i hi
    have hi' : ¬ 8 ≤ i := by omega
    by_cases q : h < 50 + 10 * i <;> simp (discharger := omega) only [f_X8_removedAt_L4, nI_add, mt_mul, nI_clamp, nI_leI, nI_ltI, nI_eq, mt_in_t, mt_b1, mt_b2, mt_b3, mt_b4, mt_l, mt_g, ↓reduceIte, Nat.reduceEqDiff, Nat.reduceLeDiff, ml_0, ml_1, ml_2, ml_3, ml_4, ml_5, ml_6, ml_7, ml_8, ml_9, ml_10, ml_11, ml_12, ml_13, ml_14, ml_16, ml_31, ml_32, ml_40, ml_42, ml_48, ml_50, ml_57, ml_59, ml_60, ml_63, ml_98, ml_100, ml_103, ml_104, ml_105, ml_106, ml_107, ml_108, ml_109, ml_110, ml_111, ml_112, ml_113, ml_114, ml_115, ml_120, ml_127, ml_176, ml_180, ml_200, ml_254, ml_255, ml_256, ml_300, ml_728, ml_832, ml_65536, hi', q, mt_or, mt_shl, fa_or, Nat.or_zero]
def ms_ho (σ : Nat → Nat) (m c : Nat) : Nat := mt_sm (fun g => if σ (4 + 6 * g + 4) = m + 1 ∧ σ (4 + 6 * g + 0) = c then 1 else 0) (σ 0)
def ms_py (σ : Nat → Nat) (m : Nat) : Nat := mt_or (fun g => if σ (4 + 6 * g + 4) = m + 1 then 2 ^ σ (4 + 6 * g + 0) else 0) (σ 0)
theorem ms_ho_lt (hok : mt_k σ) (m c : Nat) : ms_ho σ m c ≤ 16 := by
  have h1 := mt_sm_le (f := fun g => if σ (4 + 6 * g + 4) = m + 1 ∧ σ (4 + 6 * g + 0) = c then 1 else 0) (c := 1) (n := σ 0) (fun g _ => by split <;> omega)
  have h2 := hok.1
  unfold ms_ho
  omega
theorem ms_py_lt (hok : mt_k σ) (m : Nat) : ms_py σ m < 16 := mt_or_lt (b := 4) (fun g hg => by
  have h1 := (hok.2 g hg).1
  split
  · exact Nat.pow_lt_pow_right (by decide) h1
  · decide)
end MC
