/-! the mathematics, 4: what the reference says of its numbers -/
def ms_wd (σ : Nat → Nat) (h g : Nat) : Nat := σ (4 + 6 * g + 3) &&& (ms_wb h ^^^ 4294967295)
def ms_sd (σ : Nat → Nat) (m h g : Nat) : Nat := ms_wd σ h g ||| (if 120 ≤ h ∧ σ (4 + 6 * g + 2) = 0 then 2 ^ ms_gr σ m else 0)
abbrev ms_ln (σ : Nat → Nat) (m g n : Nat) : Prop := ∀ q, q < n → ¬ (q ≠ g ∧ σ (4 + 6 * q + 4) = m + 1 ∧ σ (4 + 6 * q + 1) = 1 ∧ σ (4 + 6 * q + 2) = σ (4 + 6 * g + 2))
abbrev ms_lo (σ : Nat → Nat) (m h g : Nat) : Prop := σ (4 + 6 * g + 1) = 1 ∧ ms_held σ m % 2 = 1 ∧ ms_sd σ m h g = 0 ∧ ms_ln σ m g (σ 0)
def ms_ha (σ : Nat → Nat) (m h g : Nat) : Nat := if σ (4 + 6 * g + 4) = m + 1 then ms_pc (ms_wd σ h g) + (if ms_sd σ m h g = ms_wd σ h g then 0 else 3) + (if ms_lo σ m h g then 10 else 0) else 0
def ms_harm (σ : Nat → Nat) (m h : Nat) : Nat := mt_sm (ms_ha σ m h) (σ 0)
theorem mt_mx_0 {f : Nat → Nat} : ∀ {n : Nat}, (∀ g, g < n → f g = 0) → mt_mx f n = 0
  | 0, _ => rfl
  | n + 1, h => by
    show (if mt_mx f n < f n then f n else mt_mx f n) = 0
    rw [mt_mx_0 (n := n) (fun g hg => h g (by omega)), h n (by omega)]
    rfl
section MR
variable {μ : fw_M} {σ : Nat → Nat}
theorem ms_wd_lt (hok : mt_k σ) {g : Nat} (hg : g < σ 0) (h : Nat) : ms_wd σ h g < 256 := Nat.lt_of_le_of_lt Nat.and_le_left (hok.2 g hg).2.2.2.1
theorem ms_gr_lt (hok : mt_k σ) (m : Nat) : ms_gr σ m < 8 := mt_mx_lt (by decide) (fun g hg => by
  have := (hok.2 g hg).2.2.1
  split <;> omega)
theorem ms_gb_lt (hok : mt_k σ) (m : Nat) : 2 ^ ms_gr σ m < 256 := Nat.pow_lt_pow_right (by decide) (ms_gr_lt hok m)
theorem ms_sd_lt (hok : mt_k σ) {g : Nat} (hg : g < σ 0) (m h : Nat) : ms_sd σ m h g < 256 := by
  refine Nat.or_lt_two_pow (n := 8) (ms_wd_lt hok hg h) ?_
  split
  · exact ms_gb_lt hok m
  · decide
theorem ms_held_lt (hok : mt_k σ) (m : Nat) : ms_held σ m ≤ 16 := by
  have h1 := mt_sm_le (f := fun g => if σ (4 + 6 * g + 4) = m + 1 then 1 else 0) (c := 1) (n := σ 0) (fun g _ => by split <;> omega)
  have h2 := hok.1
  unfold ms_held
  omega
theorem mr_isInside (hM : mt_M μ 19 0 σ) (hok : mt_k σ) {g m : Nat} (hg : g < σ 0) (hm : m < 2) : f_X10_isInside μ (nI g) (nI m) = some (nI (if σ (4 + 6 * g + 4) = m + 1 then 1 else 0)) := by
  have h16 := hok.1
  have b4 := (hok.2 g hg).2.2.2.2
  have e := mr_of hM (g := g) (w := 4) (by omega) (by decide)
  by_cases h : σ (4 + 6 * g + 4) = m + 1 <;> simp (discharger := omega) only [f_X10_isInside, nI_add, mt_mul, nI_clamp, nI_leI, nI_ltI, nI_eq, mt_in_t, mt_b1, mt_b2, mt_b3, mt_b4, mt_l, mt_g, ↓reduceIte, Nat.reduceEqDiff, Nat.reduceLeDiff, ml_0, ml_1, ml_2, ml_3, ml_4, ml_5, ml_6, ml_7, ml_8, ml_9, ml_10, ml_11, ml_12, ml_13, ml_14, ml_16, ml_31, ml_32, ml_40, ml_42, ml_48, ml_50, ml_57, ml_59, ml_60, ml_63, ml_98, ml_100, ml_103, ml_104, ml_105, ml_106, ml_107, ml_108, ml_109, ml_110, ml_111, ml_112, ml_113, ml_114, ml_115, ml_120, ml_127, ml_176, ml_180, ml_200, ml_254, ml_255, ml_256, ml_300, ml_728, ml_832, ml_65536, e, h]
theorem mr_held (hM : mt_M μ 19 0 σ) (hok : mt_k σ) {m : Nat} (hm : m < 2) : f_X10_held μ (nI m) = some (nI (ms_held σ m)) := by
  have h16 := hok.1
  have cn := mt_at hM (i := 0) (by decide)
  unfold f_X10_held ms_held
  refine mt_det (fun n (a : Int32) i => f_X10_held_L4 μ n (nI m) a i) (fun i => nI (mt_sm (fun g => if σ (4 + 6 * g + 4) = m + 1 then 1 else 0) i)) (N := σ 0) ?_ ?_ (n := 1000) (by omega)
  · intro n
    simp (discharger := omega) only [f_X10_held_L4, nI_add, mt_mul, nI_clamp, nI_leI, nI_ltI, nI_eq, mt_in_t, mt_b1, mt_b2, mt_b3, mt_b4, mt_l, mt_g, ↓reduceIte, Nat.reduceEqDiff, Nat.reduceLeDiff, ml_0, ml_1, ml_2, ml_3, ml_4, ml_5, ml_6, ml_7, ml_8, ml_9, ml_10, ml_11, ml_12, ml_13, ml_14, ml_16, ml_31, ml_32, ml_40, ml_42, ml_48, ml_50, ml_57, ml_59, ml_60, ml_63, ml_98, ml_100, ml_103, ml_104, ml_105, ml_106, ml_107, ml_108, ml_109, ml_110, ml_111, ml_112, ml_113, ml_114, ml_115, ml_120, ml_127, ml_176, ml_180, ml_200, ml_254, ml_255, ml_256, ml_300, ml_728, ml_832, ml_65536, cn, Nat.le_refl]
  · intro n i hi
    have e := mr_isInside hM hok hi hm
    have hi' : ¬ σ 0 ≤ i := by omega
    by_cases h : σ (4 + 6 * i + 4) = m + 1 <;> simp (discharger := omega) only [f_X10_held_L4, nI_add, mt_mul, nI_clamp, nI_leI, nI_ltI, nI_eq, mt_in_t, mt_b1, mt_b2, mt_b3, mt_b4, mt_l, mt_g, ↓reduceIte, Nat.reduceEqDiff, Nat.reduceLeDiff, ml_0, ml_1, ml_2, ml_3, ml_4, ml_5, ml_6, ml_7, ml_8, ml_9, ml_10, ml_11, ml_12, ml_13, ml_14, ml_16, ml_31, ml_32, ml_40, ml_42, ml_48, ml_50, ml_57, ml_59, ml_60, ml_63, ml_98, ml_100, ml_103, ml_104, ml_105, ml_106, ml_107, ml_108, ml_109, ml_110, ml_111, ml_112, ml_113, ml_114, ml_115, ml_120, ml_127, ml_176, ml_180, ml_200, ml_254, ml_255, ml_256, ml_300, ml_728, ml_832, ml_65536, cn, e, hi', h, mt_sm]
theorem mr_heldOf (hM : mt_M μ 19 0 σ) (hok : mt_k σ) {m c : Nat} (hm : m < 2) (hc : c < 4) : f_X10_heldOf μ (nI m) (nI c) = some (nI (ms_ho σ m c)) := by
  have h16 := hok.1
  have cn := mt_at hM (i := 0) (by decide)
  unfold f_X10_heldOf ms_ho
  refine mt_det (fun n (a : Int32) i => f_X10_heldOf_L5 μ n (nI m) (nI c) a i) (fun i => nI (mt_sm (fun g => if σ (4 + 6 * g + 4) = m + 1 ∧ σ (4 + 6 * g + 0) = c then 1 else 0) i)) (N := σ 0) ?_ ?_ (n := 1000) (by omega)
  · intro n
    simp (discharger := omega) only [f_X10_heldOf_L5, nI_add, mt_mul, nI_clamp, nI_leI, nI_ltI, nI_eq, mt_in_t, mt_b1, mt_b2, mt_b3, mt_b4, mt_l, mt_g, ↓reduceIte, Nat.reduceEqDiff, Nat.reduceLeDiff, ml_0, ml_1, ml_2, ml_3, ml_4, ml_5, ml_6, ml_7, ml_8, ml_9, ml_10, ml_11, ml_12, ml_13, ml_14, ml_16, ml_31, ml_32, ml_40, ml_42, ml_48, ml_50, ml_57, ml_59, ml_60, ml_63, ml_98, ml_100, ml_103, ml_104, ml_105, ml_106, ml_107, ml_108, ml_109, ml_110, ml_111, ml_112, ml_113, ml_114, ml_115, ml_120, ml_127, ml_176, ml_180, ml_200, ml_254, ml_255, ml_256, ml_300, ml_728, ml_832, ml_65536, cn, Nat.le_refl]
  · intro n i hi
    have e := mr_isInside hM hok hi hm
    have e0 := mr_of hM (g := i) (w := 0) (by omega) (by decide)
    have b0 := (hok.2 i hi).1
    have hi' : ¬ σ 0 ≤ i := by omega
    by_cases h : σ (4 + 6 * i + 4) = m + 1 <;> by_cases h' : σ (4 + 6 * i + 0) = c <;> simp (discharger := omega) only [f_X10_heldOf_L5, nI_add, mt_mul, nI_clamp, nI_leI, nI_ltI, nI_eq, mt_in_t, mt_b1, mt_b2, mt_b3, mt_b4, mt_l, mt_g, ↓reduceIte, Nat.reduceEqDiff, Nat.reduceLeDiff, ml_0, ml_1, ml_2, ml_3, ml_4, ml_5, ml_6, ml_7, ml_8, ml_9, ml_10, ml_11, ml_12, ml_13, ml_14, ml_16, ml_31, ml_32, ml_40, ml_42, ml_48, ml_50, ml_57, ml_59, ml_60, ml_63, ml_98, ml_100, ml_103, ml_104, ml_105, ml_106, ml_107, ml_108, ml_109, ml_110, ml_111, ml_112, ml_113, ml_114, ml_115, ml_120, ml_127, ml_176, ml_180, ml_200, ml_254, ml_255, ml_256, ml_300, ml_728, ml_832, ml_65536, cn, e, e0, hi', h, h', mt_sm, and_true, true_and, false_and, and_false]
theorem mr_washable {h : Nat} (hh : h < 1000) : f_X10_washable μ (nI h) = some (nI (ms_wb h)) := by
  unfold f_X10_washable ms_wb
  refine mt_det (fun n (a : Int32) i => f_X10_washable_L4 μ n (nI h) a i) (fun i => nI (mt_or (fun k => if h < 50 + 10 * k then 0 else 2 ^ k) i)) (N := 8) ?_ ?_ (n := 1000) (by omega)
  · intro n
    simp (discharger := omega) only [f_X10_washable_L4, nI_add, mt_mul, nI_clamp, nI_leI, nI_ltI, nI_eq, mt_in_t, mt_b1, mt_b2, mt_b3, mt_b4, mt_l, mt_g, ↓reduceIte, Nat.reduceEqDiff, Nat.reduceLeDiff, ml_0, ml_1, ml_2, ml_3, ml_4, ml_5, ml_6, ml_7, ml_8, ml_9, ml_10, ml_11, ml_12, ml_13, ml_14, ml_16, ml_31, ml_32, ml_40, ml_42, ml_48, ml_50, ml_57, ml_59, ml_60, ml_63, ml_98, ml_100, ml_103, ml_104, ml_105, ml_106, ml_107, ml_108, ml_109, ml_110, ml_111, ml_112, ml_113, ml_114, ml_115, ml_120, ml_127, ml_176, ml_180, ml_200, ml_254, ml_255, ml_256, ml_300, ml_728, ml_832, ml_65536, Nat.le_refl]
  · intro n i hi
    have hi' : ¬ 8 ≤ i := by omega
    by_cases q : h < 50 + 10 * i <;> simp (discharger := omega) only [f_X10_washable_L4, nI_add, mt_mul, nI_clamp, nI_leI, nI_ltI, nI_eq, mt_in_t, mt_b1, mt_b2, mt_b3, mt_b4, mt_l, mt_g, ↓reduceIte, Nat.reduceEqDiff, Nat.reduceLeDiff, ml_0, ml_1, ml_2, ml_3, ml_4, ml_5, ml_6, ml_7, ml_8, ml_9, ml_10, ml_11, ml_12, ml_13, ml_14, ml_16, ml_31, ml_32, ml_40, ml_42, ml_48, ml_50, ml_57, ml_59, ml_60, ml_63, ml_98, ml_100, ml_103, ml_104, ml_105, ml_106, ml_107, ml_108, ml_109, ml_110, ml_111, ml_112, ml_113, ml_114, ml_115, ml_120, ml_127, ml_176, ml_180, ml_200, ml_254, ml_255, ml_256, ml_300, ml_728, ml_832, ml_65536, hi', q, mt_or, mt_shl, fa_or]
theorem mt_neg : ∀ c, c < 8 → ¬ nI c ≤ nI 4294967295 := by decide +kernel
theorem mr_greatest (hM : mt_M μ 19 0 σ) (hok : mt_k σ) {g m : Nat} (hg : g < σ 0) (hin : σ (4 + 6 * g + 4) = m + 1) (hm : m < 2) : f_X10_greatest μ (nI m) = some (nI (ms_gr σ m)) := by
  have h16 := hok.1
  have hG := hok.2
  have cn := mt_at hM (i := 0) (by decide)
  unfold f_X10_greatest
  refine mt_while (L := fun n (a : Int32) i => f_X10_greatest_L4 μ n (nI m) a i) (I := fun i a => (a = nI 4294967295 ∧ ∀ q, q < i → σ (4 + 6 * q + 4) ≠ m + 1) ∨ (a = nI (mt_mx (fun g => if σ (4 + 6 * g + 4) = m + 1 then σ (4 + 6 * g + 2) else 0) i) ∧ ∃ q, q < i ∧ σ (4 + 6 * q + 4) = m + 1)) (P := fun r => r = some (nI (ms_gr σ m))) (N := σ 0) ?_ ?_ (σ 0) 1000 (-1 : Int32) 0 (by omega) (by omega) (Or.inl ⟨rfl, fun q hq => absurd hq (Nat.not_lt_zero q)⟩)
  · intro n a h
    rcases h with ⟨-, h⟩ | ⟨rfl, -⟩
    · exact absurd hin (h g hg)
    · simp (discharger := omega) only [f_X10_greatest_L4, nI_add, mt_mul, nI_clamp, nI_leI, nI_ltI, nI_eq, mt_in_t, mt_b1, mt_b2, mt_b3, mt_b4, mt_l, mt_g, ↓reduceIte, Nat.reduceEqDiff, Nat.reduceLeDiff, ml_0, ml_1, ml_2, ml_3, ml_4, ml_5, ml_6, ml_7, ml_8, ml_9, ml_10, ml_11, ml_12, ml_13, ml_14, ml_16, ml_31, ml_32, ml_40, ml_42, ml_48, ml_50, ml_57, ml_59, ml_60, ml_63, ml_98, ml_100, ml_103, ml_104, ml_105, ml_106, ml_107, ml_108, ml_109, ml_110, ml_111, ml_112, ml_113, ml_114, ml_115, ml_120, ml_127, ml_176, ml_180, ml_200, ml_254, ml_255, ml_256, ml_300, ml_728, ml_832, ml_65536, cn, Nat.le_refl]
      rfl
  · intro n a i hi h
    have e := mr_isInside hM hok hi hm
    have e2 := mr_of hM (g := i) (w := 2) (by omega) (by decide)
    have b2 := (hG i hi).2.2.1
    have hi' : ¬ σ 0 ≤ i := by omega
    have hx : mt_mx (fun g => if σ (4 + 6 * g + 4) = m + 1 then σ (4 + 6 * g + 2) else 0) i < 8 := mt_mx_lt (by decide) (fun g hg => by
      have := (hG g (by omega)).2.2.1
      split <;> omega)
    have hneg := mt_neg _ b2
    left
    rcases h with ⟨rfl, h⟩ | ⟨rfl, q, hq, h⟩
    · by_cases h1 : σ (4 + 6 * i + 4) = m + 1
      · have h0 : mt_mx (fun g => if σ (4 + 6 * g + 4) = m + 1 then σ (4 + 6 * g + 2) else 0) i = 0 := mt_mx_0 (fun q hq => if_neg (h q hq))
        refine ⟨_, Or.inr ⟨rfl, i, by omega, h1⟩, ?_⟩
        by_cases h2 : 0 < σ (4 + 6 * i + 2)
        · simp (discharger := omega) only [f_X10_greatest_L4, nI_add, mt_mul, nI_clamp, nI_leI, nI_ltI, nI_eq, mt_in_t, mt_b1, mt_b2, mt_b3, mt_b4, mt_l, mt_g, ↓reduceIte, Nat.reduceEqDiff, Nat.reduceLeDiff, ml_0, ml_1, ml_2, ml_3, ml_4, ml_5, ml_6, ml_7, ml_8, ml_9, ml_10, ml_11, ml_12, ml_13, ml_14, ml_16, ml_31, ml_32, ml_40, ml_42, ml_48, ml_50, ml_57, ml_59, ml_60, ml_63, ml_98, ml_100, ml_103, ml_104, ml_105, ml_106, ml_107, ml_108, ml_109, ml_110, ml_111, ml_112, ml_113, ml_114, ml_115, ml_120, ml_127, ml_176, ml_180, ml_200, ml_254, ml_255, ml_256, ml_300, ml_728, ml_832, ml_65536, cn, e, e2, hi', h1, mt_mx, h0, h2, hneg]
        · have h3 : σ (4 + 6 * i + 2) = 0 := by omega
          rw [h3] at hneg
          simp (discharger := omega) only [f_X10_greatest_L4, nI_add, mt_mul, nI_clamp, nI_leI, nI_ltI, nI_eq, mt_in_t, mt_b1, mt_b2, mt_b3, mt_b4, mt_l, mt_g, ↓reduceIte, Nat.reduceEqDiff, Nat.reduceLeDiff, ml_0, ml_1, ml_2, ml_3, ml_4, ml_5, ml_6, ml_7, ml_8, ml_9, ml_10, ml_11, ml_12, ml_13, ml_14, ml_16, ml_31, ml_32, ml_40, ml_42, ml_48, ml_50, ml_57, ml_59, ml_60, ml_63, ml_98, ml_100, ml_103, ml_104, ml_105, ml_106, ml_107, ml_108, ml_109, ml_110, ml_111, ml_112, ml_113, ml_114, ml_115, ml_120, ml_127, ml_176, ml_180, ml_200, ml_254, ml_255, ml_256, ml_300, ml_728, ml_832, ml_65536, cn, e, e2, hi', h1, mt_mx, h0, h3, hneg, Nat.lt_irrefl]
      · refine ⟨_, Or.inl ⟨rfl, fun q hq => ?_⟩, ?_⟩
        · by_cases hqi : q = i
          · rw [hqi]; exact h1
          · exact h q (by omega)
        · simp (discharger := omega) only [f_X10_greatest_L4, nI_add, mt_mul, nI_clamp, nI_leI, nI_ltI, nI_eq, mt_in_t, mt_b1, mt_b2, mt_b3, mt_b4, mt_l, mt_g, ↓reduceIte, Nat.reduceEqDiff, Nat.reduceLeDiff, ml_0, ml_1, ml_2, ml_3, ml_4, ml_5, ml_6, ml_7, ml_8, ml_9, ml_10, ml_11, ml_12, ml_13, ml_14, ml_16, ml_31, ml_32, ml_40, ml_42, ml_48, ml_50, ml_57, ml_59, ml_60, ml_63, ml_98, ml_100, ml_103, ml_104, ml_105, ml_106, ml_107, ml_108, ml_109, ml_110, ml_111, ml_112, ml_113, ml_114, ml_115, ml_120, ml_127, ml_176, ml_180, ml_200, ml_254, ml_255, ml_256, ml_300, ml_728, ml_832, ml_65536, cn, e, e2, hi', h1]
    · refine ⟨_, Or.inr ⟨rfl, q, by omega, h⟩, ?_⟩
      by_cases h1 : σ (4 + 6 * i + 4) = m + 1
      · by_cases h2 : mt_mx (fun g => if σ (4 + 6 * g + 4) = m + 1 then σ (4 + 6 * g + 2) else 0) i < σ (4 + 6 * i + 2)
        · have h3 : ¬ σ (4 + 6 * i + 2) ≤ mt_mx (fun g => if σ (4 + 6 * g + 4) = m + 1 then σ (4 + 6 * g + 2) else 0) i := by omega
          simp (discharger := omega) only [f_X10_greatest_L4, nI_add, mt_mul, nI_clamp, nI_leI, nI_ltI, nI_eq, mt_in_t, mt_b1, mt_b2, mt_b3, mt_b4, mt_l, mt_g, ↓reduceIte, Nat.reduceEqDiff, Nat.reduceLeDiff, ml_0, ml_1, ml_2, ml_3, ml_4, ml_5, ml_6, ml_7, ml_8, ml_9, ml_10, ml_11, ml_12, ml_13, ml_14, ml_16, ml_31, ml_32, ml_40, ml_42, ml_48, ml_50, ml_57, ml_59, ml_60, ml_63, ml_98, ml_100, ml_103, ml_104, ml_105, ml_106, ml_107, ml_108, ml_109, ml_110, ml_111, ml_112, ml_113, ml_114, ml_115, ml_120, ml_127, ml_176, ml_180, ml_200, ml_254, ml_255, ml_256, ml_300, ml_728, ml_832, ml_65536, cn, e, e2, hi', h1, mt_mx, h2, h3]
        · have h3 : σ (4 + 6 * i + 2) ≤ mt_mx (fun g => if σ (4 + 6 * g + 4) = m + 1 then σ (4 + 6 * g + 2) else 0) i := by omega
          simp (discharger := omega) only [f_X10_greatest_L4, nI_add, mt_mul, nI_clamp, nI_leI, nI_ltI, nI_eq, mt_in_t, mt_b1, mt_b2, mt_b3, mt_b4, mt_l, mt_g, ↓reduceIte, Nat.reduceEqDiff, Nat.reduceLeDiff, ml_0, ml_1, ml_2, ml_3, ml_4, ml_5, ml_6, ml_7, ml_8, ml_9, ml_10, ml_11, ml_12, ml_13, ml_14, ml_16, ml_31, ml_32, ml_40, ml_42, ml_48, ml_50, ml_57, ml_59, ml_60, ml_63, ml_98, ml_100, ml_103, ml_104, ml_105, ml_106, ml_107, ml_108, ml_109, ml_110, ml_111, ml_112, ml_113, ml_114, ml_115, ml_120, ml_127, ml_176, ml_180, ml_200, ml_254, ml_255, ml_256, ml_300, ml_728, ml_832, ml_65536, cn, e, e2, hi', h1, mt_mx, h2, h3]
      · simp (discharger := omega) only [f_X10_greatest_L4, nI_add, mt_mul, nI_clamp, nI_leI, nI_ltI, nI_eq, mt_in_t, mt_b1, mt_b2, mt_b3, mt_b4, mt_l, mt_g, ↓reduceIte, Nat.reduceEqDiff, Nat.reduceLeDiff, ml_0, ml_1, ml_2, ml_3, ml_4, ml_5, ml_6, ml_7, ml_8, ml_9, ml_10, ml_11, ml_12, ml_13, ml_14, ml_16, ml_31, ml_32, ml_40, ml_42, ml_48, ml_50, ml_57, ml_59, ml_60, ml_63, ml_98, ml_100, ml_103, ml_104, ml_105, ml_106, ml_107, ml_108, ml_109, ml_110, ml_111, ml_112, ml_113, ml_114, ml_115, ml_120, ml_127, ml_176, ml_180, ml_200, ml_254, ml_255, ml_256, ml_300, ml_728, ml_832, ml_65536, cn, e, e2, hi', h1, mt_mx, Nat.not_lt_zero]
theorem mr_washed (hM : mt_M μ 19 0 σ) (hok : mt_k σ) {g h : Nat} (hg : g < σ 0) (hh : h < 1000) : f_X10_washed μ (nI g) (nI h) = some (nI (ms_wd σ h g)) := by
  have h16 := hok.1
  have e := mr_of hM (g := g) (w := 3) (by omega) (by decide)
  have e2 := mr_washable (μ := μ) hh
  simp (discharger := omega) only [f_X10_washed, nI_add, mt_mul, nI_clamp, nI_leI, nI_ltI, nI_eq, mt_in_t, mt_b1, mt_b2, mt_b3, mt_b4, mt_l, mt_g, ↓reduceIte, Nat.reduceEqDiff, Nat.reduceLeDiff, ml_0, ml_1, ml_2, ml_3, ml_4, ml_5, ml_6, ml_7, ml_8, ml_9, ml_10, ml_11, ml_12, ml_13, ml_14, ml_16, ml_31, ml_32, ml_40, ml_42, ml_48, ml_50, ml_57, ml_59, ml_60, ml_63, ml_98, ml_100, ml_103, ml_104, ml_105, ml_106, ml_107, ml_108, ml_109, ml_110, ml_111, ml_112, ml_113, ml_114, ml_115, ml_120, ml_127, ml_176, ml_180, ml_200, ml_254, ml_255, ml_256, ml_300, ml_728, ml_832, ml_65536, e, e2, ml_m1, mt_xor, fa_and]
  rfl
theorem mr_stained (hM : mt_M μ 19 0 σ) (hok : mt_k σ) {g m h : Nat} (hg : g < σ 0) (hin : σ (4 + 6 * g + 4) = m + 1) (hm : m < 2) (hh : h < 1000) : f_X10_stained μ (nI g) (nI m) (nI h) = some (nI (ms_sd σ m h g)) := by
  have h16 := hok.1
  have e := mr_of hM (g := g) (w := 2) (by omega) (by decide)
  have e2 := mr_washed hM hok hg hh
  have e3 := mr_greatest hM hok hg hin hm
  have b2 := (hok.2 g hg).2.2.1
  have b3 := ms_gr_lt hok m
  unfold ms_sd
  by_cases h1 : h < 120
  · have h2 : ¬ 120 ≤ h := by omega
    simp (discharger := omega) only [f_X10_stained, nI_add, mt_mul, nI_clamp, nI_leI, nI_ltI, nI_eq, mt_in_t, mt_b1, mt_b2, mt_b3, mt_b4, mt_l, mt_g, ↓reduceIte, Nat.reduceEqDiff, Nat.reduceLeDiff, ml_0, ml_1, ml_2, ml_3, ml_4, ml_5, ml_6, ml_7, ml_8, ml_9, ml_10, ml_11, ml_12, ml_13, ml_14, ml_16, ml_31, ml_32, ml_40, ml_42, ml_48, ml_50, ml_57, ml_59, ml_60, ml_63, ml_98, ml_100, ml_103, ml_104, ml_105, ml_106, ml_107, ml_108, ml_109, ml_110, ml_111, ml_112, ml_113, ml_114, ml_115, ml_120, ml_127, ml_176, ml_180, ml_200, ml_254, ml_255, ml_256, ml_300, ml_728, ml_832, ml_65536, e, e2, h1, h2, fa_or, false_and]
  · have h2 : 120 ≤ h := by omega
    by_cases h3 : σ (4 + 6 * g + 2) = 0
    · simp (discharger := omega) only [f_X10_stained, nI_add, mt_mul, nI_clamp, nI_leI, nI_ltI, nI_eq, mt_in_t, mt_b1, mt_b2, mt_b3, mt_b4, mt_l, mt_g, ↓reduceIte, Nat.reduceEqDiff, Nat.reduceLeDiff, ml_0, ml_1, ml_2, ml_3, ml_4, ml_5, ml_6, ml_7, ml_8, ml_9, ml_10, ml_11, ml_12, ml_13, ml_14, ml_16, ml_31, ml_32, ml_40, ml_42, ml_48, ml_50, ml_57, ml_59, ml_60, ml_63, ml_98, ml_100, ml_103, ml_104, ml_105, ml_106, ml_107, ml_108, ml_109, ml_110, ml_111, ml_112, ml_113, ml_114, ml_115, ml_120, ml_127, ml_176, ml_180, ml_200, ml_254, ml_255, ml_256, ml_300, ml_728, ml_832, ml_65536, e, e2, e3, h1, h2, h3, fa_or, mt_shl, true_and]
    · simp (discharger := omega) only [f_X10_stained, nI_add, mt_mul, nI_clamp, nI_leI, nI_ltI, nI_eq, mt_in_t, mt_b1, mt_b2, mt_b3, mt_b4, mt_l, mt_g, ↓reduceIte, Nat.reduceEqDiff, Nat.reduceLeDiff, ml_0, ml_1, ml_2, ml_3, ml_4, ml_5, ml_6, ml_7, ml_8, ml_9, ml_10, ml_11, ml_12, ml_13, ml_14, ml_16, ml_31, ml_32, ml_40, ml_42, ml_48, ml_50, ml_57, ml_59, ml_60, ml_63, ml_98, ml_100, ml_103, ml_104, ml_105, ml_106, ml_107, ml_108, ml_109, ml_110, ml_111, ml_112, ml_113, ml_114, ml_115, ml_120, ml_127, ml_176, ml_180, ml_200, ml_254, ml_255, ml_256, ml_300, ml_728, ml_832, ml_65536, e, e2, e3, h1, h2, h3, fa_or, mt_shl, true_and]
theorem mr_isLonely (hM : mt_M μ 19 0 σ) (hok : mt_k σ) {g m : Nat} (hg : g < σ 0) (hm : m < 2) : f_X10_isLonely μ (nI g) (nI m) = some (nI (if ms_ln σ m g (σ 0) then 1 else 0)) := by
  have h16 := hok.1
  have hG := hok.2
  have cn := mt_at hM (i := 0) (by decide)
  have g2 := mr_of hM (g := g) (w := 2) (by omega) (by decide)
  have gb := (hG g hg).2.2.1
  unfold f_X10_isLonely
  refine mt_while (L := fun n (_ : Unit) i => f_X10_isLonely_L2 μ n (nI g) (nI m) i) (I := fun i _ => ms_ln σ m g i) (P := fun r => r = some (nI (if ms_ln σ m g (σ 0) then 1 else 0))) (N := σ 0) ?_ ?_ (σ 0) 1000 () 0 (by omega) (by omega) (fun q hq => absurd hq (Nat.not_lt_zero q))
  · intro n a h
    rw [if_pos h]
    simp (discharger := omega) only [f_X10_isLonely_L2, nI_add, mt_mul, nI_clamp, nI_leI, nI_ltI, nI_eq, mt_in_t, mt_b1, mt_b2, mt_b3, mt_b4, mt_l, mt_g, ↓reduceIte, Nat.reduceEqDiff, Nat.reduceLeDiff, ml_0, ml_1, ml_2, ml_3, ml_4, ml_5, ml_6, ml_7, ml_8, ml_9, ml_10, ml_11, ml_12, ml_13, ml_14, ml_16, ml_31, ml_32, ml_40, ml_42, ml_48, ml_50, ml_57, ml_59, ml_60, ml_63, ml_98, ml_100, ml_103, ml_104, ml_105, ml_106, ml_107, ml_108, ml_109, ml_110, ml_111, ml_112, ml_113, ml_114, ml_115, ml_120, ml_127, ml_176, ml_180, ml_200, ml_254, ml_255, ml_256, ml_300, ml_728, ml_832, ml_65536, cn, Nat.le_refl]
  · intro n a i hi h
    have e := mr_isInside hM hok hi hm
    have e1 := mr_of hM (g := i) (w := 1) (by omega) (by decide)
    have e2 := mr_of hM (g := i) (w := 2) (by omega) (by decide)
    have b1 := (hG i hi).2.1
    have b2 := (hG i hi).2.2.1
    have hi' : ¬ σ 0 ≤ i := by omega
    by_cases hgi : i ≠ g ∧ σ (4 + 6 * i + 4) = m + 1 ∧ σ (4 + 6 * i + 1) = 1 ∧ σ (4 + 6 * i + 2) = σ (4 + 6 * g + 2)
    · right
      rw [if_neg (fun z => z i hi hgi)]
      obtain ⟨q1, q2, q3, q4⟩ := hgi
      simp (discharger := omega) only [f_X10_isLonely_L2, nI_add, mt_mul, nI_clamp, nI_leI, nI_ltI, nI_eq, mt_in_t, mt_b1, mt_b2, mt_b3, mt_b4, mt_l, mt_g, ↓reduceIte, Nat.reduceEqDiff, Nat.reduceLeDiff, ml_0, ml_1, ml_2, ml_3, ml_4, ml_5, ml_6, ml_7, ml_8, ml_9, ml_10, ml_11, ml_12, ml_13, ml_14, ml_16, ml_31, ml_32, ml_40, ml_42, ml_48, ml_50, ml_57, ml_59, ml_60, ml_63, ml_98, ml_100, ml_103, ml_104, ml_105, ml_106, ml_107, ml_108, ml_109, ml_110, ml_111, ml_112, ml_113, ml_114, ml_115, ml_120, ml_127, ml_176, ml_180, ml_200, ml_254, ml_255, ml_256, ml_300, ml_728, ml_832, ml_65536, cn, e, e1, e2, g2, hi', q1, q2, q3, q4]
    · left
      refine ⟨(), fun q hq => ?_, ?_⟩
      · by_cases hqi : q = i
        · rw [hqi]; exact hgi
        · exact h q (by omega)
      · by_cases q1 : i = g
        · simp (discharger := omega) only [f_X10_isLonely_L2, nI_add, mt_mul, nI_clamp, nI_leI, nI_ltI, nI_eq, mt_in_t, mt_b1, mt_b2, mt_b3, mt_b4, mt_l, mt_g, ↓reduceIte, Nat.reduceEqDiff, Nat.reduceLeDiff, ml_0, ml_1, ml_2, ml_3, ml_4, ml_5, ml_6, ml_7, ml_8, ml_9, ml_10, ml_11, ml_12, ml_13, ml_14, ml_16, ml_31, ml_32, ml_40, ml_42, ml_48, ml_50, ml_57, ml_59, ml_60, ml_63, ml_98, ml_100, ml_103, ml_104, ml_105, ml_106, ml_107, ml_108, ml_109, ml_110, ml_111, ml_112, ml_113, ml_114, ml_115, ml_120, ml_127, ml_176, ml_180, ml_200, ml_254, ml_255, ml_256, ml_300, ml_728, ml_832, ml_65536, cn, hi', q1]
          subst q1
          simp (discharger := omega) only [hi', ↓reduceIte]
        · by_cases q2 : σ (4 + 6 * i + 4) = m + 1
          · by_cases q3 : σ (4 + 6 * i + 1) = 1
            · have q4 : ¬ σ (4 + 6 * i + 2) = σ (4 + 6 * g + 2) := fun z => hgi ⟨q1, q2, q3, z⟩
              simp (discharger := omega) only [f_X10_isLonely_L2, nI_add, mt_mul, nI_clamp, nI_leI, nI_ltI, nI_eq, mt_in_t, mt_b1, mt_b2, mt_b3, mt_b4, mt_l, mt_g, ↓reduceIte, Nat.reduceEqDiff, Nat.reduceLeDiff, ml_0, ml_1, ml_2, ml_3, ml_4, ml_5, ml_6, ml_7, ml_8, ml_9, ml_10, ml_11, ml_12, ml_13, ml_14, ml_16, ml_31, ml_32, ml_40, ml_42, ml_48, ml_50, ml_57, ml_59, ml_60, ml_63, ml_98, ml_100, ml_103, ml_104, ml_105, ml_106, ml_107, ml_108, ml_109, ml_110, ml_111, ml_112, ml_113, ml_114, ml_115, ml_120, ml_127, ml_176, ml_180, ml_200, ml_254, ml_255, ml_256, ml_300, ml_728, ml_832, ml_65536, cn, e, e1, e2, g2, hi', q1, q2, q3, q4]
            · simp (discharger := omega) only [f_X10_isLonely_L2, nI_add, mt_mul, nI_clamp, nI_leI, nI_ltI, nI_eq, mt_in_t, mt_b1, mt_b2, mt_b3, mt_b4, mt_l, mt_g, ↓reduceIte, Nat.reduceEqDiff, Nat.reduceLeDiff, ml_0, ml_1, ml_2, ml_3, ml_4, ml_5, ml_6, ml_7, ml_8, ml_9, ml_10, ml_11, ml_12, ml_13, ml_14, ml_16, ml_31, ml_32, ml_40, ml_42, ml_48, ml_50, ml_57, ml_59, ml_60, ml_63, ml_98, ml_100, ml_103, ml_104, ml_105, ml_106, ml_107, ml_108, ml_109, ml_110, ml_111, ml_112, ml_113, ml_114, ml_115, ml_120, ml_127, ml_176, ml_180, ml_200, ml_254, ml_255, ml_256, ml_300, ml_728, ml_832, ml_65536, cn, e, e1, e2, g2, hi', q1, q2, q3]
          · simp (discharger := omega) only [f_X10_isLonely_L2, nI_add, mt_mul, nI_clamp, nI_leI, nI_ltI, nI_eq, mt_in_t, mt_b1, mt_b2, mt_b3, mt_b4, mt_l, mt_g, ↓reduceIte, Nat.reduceEqDiff, Nat.reduceLeDiff, ml_0, ml_1, ml_2, ml_3, ml_4, ml_5, ml_6, ml_7, ml_8, ml_9, ml_10, ml_11, ml_12, ml_13, ml_14, ml_16, ml_31, ml_32, ml_40, ml_42, ml_48, ml_50, ml_57, ml_59, ml_60, ml_63, ml_98, ml_100, ml_103, ml_104, ml_105, ml_106, ml_107, ml_108, ml_109, ml_110, ml_111, ml_112, ml_113, ml_114, ml_115, ml_120, ml_127, ml_176, ml_180, ml_200, ml_254, ml_255, ml_256, ml_300, ml_728, ml_832, ml_65536, cn, e, e1, e2, g2, hi', q1, q2]
theorem mr_isLost (hM : mt_M μ 19 0 σ) (hok : mt_k σ) {g m h : Nat} (hg : g < σ 0) (hin : σ (4 + 6 * g + 4) = m + 1) (hm : m < 2) (hh : h < 1000) : f_X10_isLost μ (nI g) (nI m) (nI h) = some (nI (if ms_lo σ m h g then 1 else 0)) := by
  have h16 := hok.1
  have e1 := mr_of hM (g := g) (w := 1) (by omega) (by decide)
  have e2 := mr_held hM hok hm
  have e3 := mr_stained hM hok hg hin hm hh
  have e4 := mr_isLonely hM hok hg hm
  have b1 := (hok.2 g hg).2.1
  have b2 := ms_held_lt hok m
  have b3 := ms_sd_lt hok hg m h
  by_cases q1 : σ (4 + 6 * g + 1) = 1
  · by_cases q2 : ms_held σ m % 2 = 1
    · by_cases q3 : ms_sd σ m h g = 0
      · by_cases q4 : ms_ln σ m g (σ 0)
        · rw [if_pos ⟨q1, q2, q3, q4⟩]
          rw [if_pos q4] at e4
          simp (discharger := omega) only [f_X10_isLost, nI_add, mt_mul, nI_clamp, nI_leI, nI_ltI, nI_eq, mt_in_t, mt_b1, mt_b2, mt_b3, mt_b4, mt_l, mt_g, ↓reduceIte, Nat.reduceEqDiff, Nat.reduceLeDiff, ml_0, ml_1, ml_2, ml_3, ml_4, ml_5, ml_6, ml_7, ml_8, ml_9, ml_10, ml_11, ml_12, ml_13, ml_14, ml_16, ml_31, ml_32, ml_40, ml_42, ml_48, ml_50, ml_57, ml_59, ml_60, ml_63, ml_98, ml_100, ml_103, ml_104, ml_105, ml_106, ml_107, ml_108, ml_109, ml_110, ml_111, ml_112, ml_113, ml_114, ml_115, ml_120, ml_127, ml_176, ml_180, ml_200, ml_254, ml_255, ml_256, ml_300, ml_728, ml_832, ml_65536, e1, e2, e3, e4, mt_rem2, q1, q2, q3]
        · rw [if_neg (fun z => q4 z.2.2.2)]
          rw [if_neg q4] at e4
          simp (discharger := omega) only [f_X10_isLost, nI_add, mt_mul, nI_clamp, nI_leI, nI_ltI, nI_eq, mt_in_t, mt_b1, mt_b2, mt_b3, mt_b4, mt_l, mt_g, ↓reduceIte, Nat.reduceEqDiff, Nat.reduceLeDiff, ml_0, ml_1, ml_2, ml_3, ml_4, ml_5, ml_6, ml_7, ml_8, ml_9, ml_10, ml_11, ml_12, ml_13, ml_14, ml_16, ml_31, ml_32, ml_40, ml_42, ml_48, ml_50, ml_57, ml_59, ml_60, ml_63, ml_98, ml_100, ml_103, ml_104, ml_105, ml_106, ml_107, ml_108, ml_109, ml_110, ml_111, ml_112, ml_113, ml_114, ml_115, ml_120, ml_127, ml_176, ml_180, ml_200, ml_254, ml_255, ml_256, ml_300, ml_728, ml_832, ml_65536, e1, e2, e3, e4, mt_rem2, q1, q2, q3]
      · rw [if_neg (fun z => q3 z.2.2.1)]
        simp (discharger := omega) only [f_X10_isLost, nI_add, mt_mul, nI_clamp, nI_leI, nI_ltI, nI_eq, mt_in_t, mt_b1, mt_b2, mt_b3, mt_b4, mt_l, mt_g, ↓reduceIte, Nat.reduceEqDiff, Nat.reduceLeDiff, ml_0, ml_1, ml_2, ml_3, ml_4, ml_5, ml_6, ml_7, ml_8, ml_9, ml_10, ml_11, ml_12, ml_13, ml_14, ml_16, ml_31, ml_32, ml_40, ml_42, ml_48, ml_50, ml_57, ml_59, ml_60, ml_63, ml_98, ml_100, ml_103, ml_104, ml_105, ml_106, ml_107, ml_108, ml_109, ml_110, ml_111, ml_112, ml_113, ml_114, ml_115, ml_120, ml_127, ml_176, ml_180, ml_200, ml_254, ml_255, ml_256, ml_300, ml_728, ml_832, ml_65536, e1, e2, e3, mt_rem2, q1, q2, q3]
    · rw [if_neg (fun z => q2 z.2.1)]
      simp (discharger := omega) only [f_X10_isLost, nI_add, mt_mul, nI_clamp, nI_leI, nI_ltI, nI_eq, mt_in_t, mt_b1, mt_b2, mt_b3, mt_b4, mt_l, mt_g, ↓reduceIte, Nat.reduceEqDiff, Nat.reduceLeDiff, ml_0, ml_1, ml_2, ml_3, ml_4, ml_5, ml_6, ml_7, ml_8, ml_9, ml_10, ml_11, ml_12, ml_13, ml_14, ml_16, ml_31, ml_32, ml_40, ml_42, ml_48, ml_50, ml_57, ml_59, ml_60, ml_63, ml_98, ml_100, ml_103, ml_104, ml_105, ml_106, ml_107, ml_108, ml_109, ml_110, ml_111, ml_112, ml_113, ml_114, ml_115, ml_120, ml_127, ml_176, ml_180, ml_200, ml_254, ml_255, ml_256, ml_300, ml_728, ml_832, ml_65536, e1, e2, e3, mt_rem2, q1, q2]
  · rw [if_neg (fun z => q1 z.1)]
    simp (discharger := omega) only [f_X10_isLost, nI_add, mt_mul, nI_clamp, nI_leI, nI_ltI, nI_eq, mt_in_t, mt_b1, mt_b2, mt_b3, mt_b4, mt_l, mt_g, ↓reduceIte, Nat.reduceEqDiff, Nat.reduceLeDiff, ml_0, ml_1, ml_2, ml_3, ml_4, ml_5, ml_6, ml_7, ml_8, ml_9, ml_10, ml_11, ml_12, ml_13, ml_14, ml_16, ml_31, ml_32, ml_40, ml_42, ml_48, ml_50, ml_57, ml_59, ml_60, ml_63, ml_98, ml_100, ml_103, ml_104, ml_105, ml_106, ml_107, ml_108, ml_109, ml_110, ml_111, ml_112, ml_113, ml_114, ml_115, ml_120, ml_127, ml_176, ml_180, ml_200, ml_254, ml_255, ml_256, ml_300, ml_728, ml_832, ml_65536, e1, e2, e3, mt_rem2, q1]
theorem mr_harm (hM : mt_M μ 19 0 σ) (hok : mt_k σ) {m h : Nat} (hm : m < 2) (hh : h < 1000) : f_X10_harm μ (nI m) (nI h) = some (nI (ms_harm σ m h)) := by
  have h16 := hok.1
  have cn := mt_at hM (i := 0) (by decide)
  unfold f_X10_harm ms_harm
  refine mt_det (fun n (a : Int32) i => f_X10_harm_L5 μ n (nI m) (nI h) a i) (fun i => nI (mt_sm (ms_ha σ m h) i)) (N := σ 0) ?_ ?_ (n := 1000) (by omega)
  · intro n
    simp (discharger := omega) only [f_X10_harm_L5, nI_add, mt_mul, nI_clamp, nI_leI, nI_ltI, nI_eq, mt_in_t, mt_b1, mt_b2, mt_b3, mt_b4, mt_l, mt_g, ↓reduceIte, Nat.reduceEqDiff, Nat.reduceLeDiff, ml_0, ml_1, ml_2, ml_3, ml_4, ml_5, ml_6, ml_7, ml_8, ml_9, ml_10, ml_11, ml_12, ml_13, ml_14, ml_16, ml_31, ml_32, ml_40, ml_42, ml_48, ml_50, ml_57, ml_59, ml_60, ml_63, ml_98, ml_100, ml_103, ml_104, ml_105, ml_106, ml_107, ml_108, ml_109, ml_110, ml_111, ml_112, ml_113, ml_114, ml_115, ml_120, ml_127, ml_176, ml_180, ml_200, ml_254, ml_255, ml_256, ml_300, ml_728, ml_832, ml_65536, cn, Nat.le_refl]
  · intro n i hi
    have e := mr_isInside hM hok hi hm
    have hi' : ¬ σ 0 ≤ i := by omega
    by_cases q : σ (4 + 6 * i + 4) = m + 1
    · have e1 := mr_washed hM hok hi hh
      have e2 := mr_stained hM hok hi q hm hh
      have e3 := mr_isLost hM hok hi q hm hh
      have b1 := ms_wd_lt hok hi h
      have b2 := ms_sd_lt hok hi m h
      by_cases q1 : ms_sd σ m h i = ms_wd σ h i
      · by_cases q2 : ms_lo σ m h i
        · rw [if_pos q2] at e3
          have e4 : ms_ha σ m h i = ms_pc (ms_wd σ h i) + 0 + 10 := by unfold ms_ha; rw [if_pos q, if_pos q1, if_pos q2]
          simp (discharger := omega) only [f_X10_harm_L5, f_X10_harm_J63, nI_add, mt_mul, nI_clamp, nI_leI, nI_ltI, nI_eq, mt_in_t, mt_b1, mt_b2, mt_b3, mt_b4, mt_l, mt_g, ↓reduceIte, Nat.reduceEqDiff, Nat.reduceLeDiff, ml_0, ml_1, ml_2, ml_3, ml_4, ml_5, ml_6, ml_7, ml_8, ml_9, ml_10, ml_11, ml_12, ml_13, ml_14, ml_16, ml_31, ml_32, ml_40, ml_42, ml_48, ml_50, ml_57, ml_59, ml_60, ml_63, ml_98, ml_100, ml_103, ml_104, ml_105, ml_106, ml_107, ml_108, ml_109, ml_110, ml_111, ml_112, ml_113, ml_114, ml_115, ml_120, ml_127, ml_176, ml_180, ml_200, ml_254, ml_255, ml_256, ml_300, ml_728, ml_832, ml_65536, cn, e, e1, e2, e3, e4, hi', q, q1, mr_bits, mt_sm]
        · rw [if_neg q2] at e3
          have e4 : ms_ha σ m h i = ms_pc (ms_wd σ h i) + 0 + 0 := by unfold ms_ha; rw [if_pos q, if_pos q1, if_neg q2]
          simp (discharger := omega) only [f_X10_harm_L5, f_X10_harm_J63, nI_add, mt_mul, nI_clamp, nI_leI, nI_ltI, nI_eq, mt_in_t, mt_b1, mt_b2, mt_b3, mt_b4, mt_l, mt_g, ↓reduceIte, Nat.reduceEqDiff, Nat.reduceLeDiff, ml_0, ml_1, ml_2, ml_3, ml_4, ml_5, ml_6, ml_7, ml_8, ml_9, ml_10, ml_11, ml_12, ml_13, ml_14, ml_16, ml_31, ml_32, ml_40, ml_42, ml_48, ml_50, ml_57, ml_59, ml_60, ml_63, ml_98, ml_100, ml_103, ml_104, ml_105, ml_106, ml_107, ml_108, ml_109, ml_110, ml_111, ml_112, ml_113, ml_114, ml_115, ml_120, ml_127, ml_176, ml_180, ml_200, ml_254, ml_255, ml_256, ml_300, ml_728, ml_832, ml_65536, cn, e, e1, e2, e3, e4, hi', q, q1, mr_bits, mt_sm]
      · by_cases q2 : ms_lo σ m h i
        · rw [if_pos q2] at e3
          have e4 : ms_ha σ m h i = ms_pc (ms_wd σ h i) + 3 + 10 := by unfold ms_ha; rw [if_pos q, if_neg q1, if_pos q2]
          simp (discharger := omega) only [f_X10_harm_L5, f_X10_harm_J63, nI_add, mt_mul, nI_clamp, nI_leI, nI_ltI, nI_eq, mt_in_t, mt_b1, mt_b2, mt_b3, mt_b4, mt_l, mt_g, ↓reduceIte, Nat.reduceEqDiff, Nat.reduceLeDiff, ml_0, ml_1, ml_2, ml_3, ml_4, ml_5, ml_6, ml_7, ml_8, ml_9, ml_10, ml_11, ml_12, ml_13, ml_14, ml_16, ml_31, ml_32, ml_40, ml_42, ml_48, ml_50, ml_57, ml_59, ml_60, ml_63, ml_98, ml_100, ml_103, ml_104, ml_105, ml_106, ml_107, ml_108, ml_109, ml_110, ml_111, ml_112, ml_113, ml_114, ml_115, ml_120, ml_127, ml_176, ml_180, ml_200, ml_254, ml_255, ml_256, ml_300, ml_728, ml_832, ml_65536, cn, e, e1, e2, e3, e4, hi', q, q1, mr_bits, mt_sm]
        · rw [if_neg q2] at e3
          have e4 : ms_ha σ m h i = ms_pc (ms_wd σ h i) + 3 + 0 := by unfold ms_ha; rw [if_pos q, if_neg q1, if_neg q2]
          simp (discharger := omega) only [f_X10_harm_L5, f_X10_harm_J63, nI_add, mt_mul, nI_clamp, nI_leI, nI_ltI, nI_eq, mt_in_t, mt_b1, mt_b2, mt_b3, mt_b4, mt_l, mt_g, ↓reduceIte, Nat.reduceEqDiff, Nat.reduceLeDiff, ml_0, ml_1, ml_2, ml_3, ml_4, ml_5, ml_6, ml_7, ml_8, ml_9, ml_10, ml_11, ml_12, ml_13, ml_14, ml_16, ml_31, ml_32, ml_40, ml_42, ml_48, ml_50, ml_57, ml_59, ml_60, ml_63, ml_98, ml_100, ml_103, ml_104, ml_105, ml_106, ml_107, ml_108, ml_109, ml_110, ml_111, ml_112, ml_113, ml_114, ml_115, ml_120, ml_127, ml_176, ml_180, ml_200, ml_254, ml_255, ml_256, ml_300, ml_728, ml_832, ml_65536, cn, e, e1, e2, e3, e4, hi', q, q1, mr_bits, mt_sm]
    · have e4 : ms_ha σ m h i = 0 := by unfold ms_ha; rw [if_neg q]
      simp (discharger := omega) only [f_X10_harm_L5, nI_add, mt_mul, nI_clamp, nI_leI, nI_ltI, nI_eq, mt_in_t, mt_b1, mt_b2, mt_b3, mt_b4, mt_l, mt_g, ↓reduceIte, Nat.reduceEqDiff, Nat.reduceLeDiff, ml_0, ml_1, ml_2, ml_3, ml_4, ml_5, ml_6, ml_7, ml_8, ml_9, ml_10, ml_11, ml_12, ml_13, ml_14, ml_16, ml_31, ml_32, ml_40, ml_42, ml_48, ml_50, ml_57, ml_59, ml_60, ml_63, ml_98, ml_100, ml_103, ml_104, ml_105, ml_106, ml_107, ml_108, ml_109, ml_110, ml_111, ml_112, ml_113, ml_114, ml_115, ml_120, ml_127, ml_176, ml_180, ml_200, ml_254, ml_255, ml_256, ml_300, ml_728, ml_832, ml_65536, cn, e, e4, hi', q, mt_sm, Nat.add_zero]
end MR
