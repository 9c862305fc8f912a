section MK
variable {μ : fw_M} {j : Nat} {σ : Nat → Nat}
/-! prices -/
theorem mt_or_tb {f : Nat → Nat} {c : Nat} : ∀ {n : Nat}, (mt_or f n).testBit c = true ↔ ∃ g, g < n ∧ (f g).testBit c = true
  | 0 => by
    constructor
    · intro h
      rw [mt_or, Nat.zero_testBit] at h
      cases h
    · rintro ⟨g, hg, -⟩
      exact absurd hg (Nat.not_lt_zero g)
  | n + 1 => by
    rw [mt_or, Nat.testBit_or, Bool.or_eq_true, mt_or_tb (n := n)]
    constructor
    · rintro (⟨g, hg, h⟩ | h)
      · exact ⟨g, by omega, h⟩
      · exact ⟨n, by omega, h⟩
    · rintro ⟨g, hg, h⟩
      by_cases hgn : g = n
      · subst hgn; exact Or.inr h
      · exact Or.inl ⟨g, by omega, h⟩
theorem mt_sm_pos {f : Nat → Nat} : ∀ {n : Nat}, 0 < mt_sm f n ↔ ∃ g, g < n ∧ 0 < f g
  | 0 => by
    constructor
    · intro h; exact absurd h (Nat.lt_irrefl 0)
    · rintro ⟨g, hg, -⟩; exact absurd hg (Nat.not_lt_zero g)
  | n + 1 => by
    have ih := mt_sm_pos (f := f) (n := n)
    rw [mt_sm]
    constructor
    · intro h
      by_cases h2 : 0 < f n
      · exact ⟨n, by omega, h2⟩
      · obtain ⟨g, hg, h3⟩ := ih.mp (by omega)
        exact ⟨g, by omega, h3⟩
    · rintro ⟨g, hg, h⟩
      by_cases hgn : g = n
      · subst hgn; omega
      · have := ih.mpr ⟨g, by omega, h⟩
        omega
theorem ms_py_tb {m c : Nat} : (ms_py σ m).testBit c = true ↔ 0 < ms_ho σ m c := by
  unfold ms_py ms_ho
  rw [mt_or_tb, mt_sm_pos]
  constructor
  · rintro ⟨g, hg, h⟩
    refine ⟨g, hg, ?_⟩
    by_cases h1 : σ (4 + 6 * g + 4) = m + 1
    · simp only [h1, ↓reduceIte, Nat.testBit_two_pow, decide_eq_true_eq] at h
      simp only [h1, h, and_self, ↓reduceIte]
      decide
    · simp only [h1, ↓reduceIte, Nat.zero_testBit] at h
      cases h
  · rintro ⟨g, hg, h⟩
    refine ⟨g, hg, ?_⟩
    by_cases h1 : σ (4 + 6 * g + 4) = m + 1 ∧ σ (4 + 6 * g + 0) = c
    · simp only [h1.1, h1.2, ↓reduceIte, Nat.testBit_two_pow, decide_true]
    · rw [if_neg h1] at h
      exact absurd h (Nat.lt_irrefl 0)
def ms_pn (σ : Nat → Nat) (m : Nat) : Nat := mt_sm (fun c => if 0 < ms_ho σ m c then 1 else 0) 4
theorem mt_pc16 : ∀ x, x < 16 → ms_pc x = mt_sm (fun c => if x.testBit c = true then 1 else 0) 4 := by decide +kernel
theorem ms_pn_e (hok : mt_k σ) (m : Nat) : ms_pc (ms_py σ m) = ms_pn σ m := by
  rw [mt_pc16 _ (ms_py_lt hok m)]
  refine mt_sm_c (fun c _ => ?_)
  by_cases h : 0 < ms_ho σ m c
  · rw [if_pos (ms_py_tb.mpr h), if_pos h]
  · rw [if_neg (fun z => h (ms_py_tb.mp z)), if_neg h]
theorem ms_pn_b {m c : Nat} (hc : c < 4) (h : 0 < ms_ho σ m c) : 1 ≤ ms_pn σ m ∧ ms_pn σ m < 5 := by
  have h1 : 0 < ms_pn σ m := mt_sm_pos.mpr ⟨c, hc, by rw [if_pos h]; decide⟩
  have h2 := mt_sm_le (f := fun c => if 0 < ms_ho σ m c then 1 else 0) (c := 1) (n := 4) (fun g _ => by split <;> omega)
  unfold ms_pn at *
  omega
theorem mt_sm_m {f h : Nat → Nat} : ∀ {n : Nat}, (∀ g, g < n → f g ≤ h g) → mt_sm f n ≤ mt_sm h n
  | 0, _ => Nat.le_refl _
  | n + 1, q => by
    have h1 := mt_sm_m (n := n) (fun g hg => q g (by omega))
    have h2 := q n (by omega)
    show mt_sm f n + f n ≤ mt_sm h n + h n
    omega
theorem ms_ho_le (σ : Nat → Nat) (m c : Nat) : ms_ho σ m c ≤ ms_held σ m := mt_sm_m (fun g _ => by
  by_cases h : σ (4 + 6 * g + 4) = m + 1
  · by_cases h2 : σ (4 + 6 * g + 0) = c <;> simp only [h, h2, and_self, and_false, ↓reduceIte] <;> decide
  · simp only [h, false_and, ↓reduceIte]
    decide)
theorem mc_degrees (hC : mt_C μ j σ) {m : Nat} (hm : m < 2) (hh : σ (2 + m) < 181) : f_X7_degrees μ j (nI m) = some (mf_w (σ (2 + m))) := by
  have e := hC.2.2.1 m hm
  have w := (mf_W _ hh).1
  unfold mf_w at w
  simp (discharger := omega) only [f_X7_degrees, nI_add, mt_mul, nI_clamp, nI_leI, nI_ltI, nI_eq, mt_in_t, mt_b1, mt_b2, mt_b3, mt_b4, mt_l, mt_g, ↓reduceIte, Nat.reduceEqDiff, Nat.reduceLeDiff, ml_0, ml_1, ml_2, ml_3, ml_4, ml_5, ml_6, ml_7, ml_8, ml_9, ml_10, ml_11, ml_12, ml_13, ml_14, ml_16, ml_31, ml_32, ml_40, ml_42, ml_48, ml_50, ml_57, ml_59, ml_60, ml_63, ml_98, ml_100, ml_103, ml_104, ml_105, ml_106, ml_107, ml_108, ml_109, ml_110, ml_111, ml_112, ml_113, ml_114, ml_115, ml_120, ml_127, ml_176, ml_180, ml_200, ml_254, ml_255, ml_256, ml_300, ml_728, ml_832, ml_65536, e, w]
  rfl
/-- a price, in any memory that agrees but for the sums paid -/
theorem mc_cost {a : fw_M} (hC : mt_C μ j σ) (ha : ∀ f, f < 8 → a j f = μ j f) (hok : mt_k σ) {m c : Nat} (hm : m < 2) (hc : c < 4) (h5 : ms_held σ m ≤ 5) (hl : 40 ≤ σ (2 + m)) (hh : σ (2 + m) < 181) : f_X7_costOfRun a j (nI m) (nI c) = some (ms_cost (σ (2 + m)) (ms_ho σ m c) (ms_pn σ m)) := by
  have h16 := hok.1
  have cn : a j 0 6 = nI (σ 0) := by rw [ha 0 (by decide)]; exact hC.1
  have eh : a j 7 m = nI (σ (2 + m)) := by rw [ha 7 (by decide)]; exact hC.2.2.1 m hm
  have ed : f_X7_degrees a j (nI m) = some (mf_w (σ (2 + m))) := by
    have w := (mf_W _ hh).1
    unfold mf_w at w
    simp (discharger := omega) only [f_X7_degrees, nI_add, mt_mul, nI_clamp, nI_leI, nI_ltI, nI_eq, mt_in_t, mt_b1, mt_b2, mt_b3, mt_b4, mt_l, mt_g, ↓reduceIte, Nat.reduceEqDiff, Nat.reduceLeDiff, ml_0, ml_1, ml_2, ml_3, ml_4, ml_5, ml_6, ml_7, ml_8, ml_9, ml_10, ml_11, ml_12, ml_13, ml_14, ml_16, ml_31, ml_32, ml_40, ml_42, ml_48, ml_50, ml_57, ml_59, ml_60, ml_63, ml_98, ml_100, ml_103, ml_104, ml_105, ml_106, ml_107, ml_108, ml_109, ml_110, ml_111, ml_112, ml_113, ml_114, ml_115, ml_120, ml_127, ml_176, ml_180, ml_200, ml_254, ml_255, ml_256, ml_300, ml_728, ml_832, ml_65536, eh, w]
    rfl
  have hpy := ms_py_lt hok m
  have hho := ms_ho_lt hok m c
  have hho5 := ms_ho_le σ m c
  unfold f_X7_costOfRun
  refine mt_det (fun n (x : Int32 × Int32) i => f_X7_costOfRun_L8 a j n (nI m) (nI c) x.1 x.2 i) (fun i => (nI (mt_sm (fun g => if σ (4 + 6 * g + 4) = m + 1 ∧ σ (4 + 6 * g + 0) = c then 1 else 0) i), nI (mt_or (fun g => if σ (4 + 6 * g + 4) = m + 1 then 2 ^ σ (4 + 6 * g + 0) else 0) i))) (N := σ 0) ?_ ?_ (n := 1000) (by omega)
  · intro n
    show f_X7_costOfRun_L8 a j (n + 1) (nI m) (nI c) (nI (ms_ho σ m c)) (nI (ms_py σ m)) (nI (σ 0)) = _
    have ebc := mt_bc (μ := a) (x := ms_py σ m) (by omega)
    rw [ms_pn_e hok m] at ebc
    unfold ms_cost
    by_cases h0 : ms_ho σ m c = 0
    · simp (discharger := omega) only [f_X7_costOfRun_L8, nI_add, mt_mul, nI_clamp, nI_leI, nI_ltI, nI_eq, mt_in_t, mt_b1, mt_b2, mt_b3, mt_b4, mt_l, mt_g, ↓reduceIte, Nat.reduceEqDiff, Nat.reduceLeDiff, ml_0, ml_1, ml_2, ml_3, ml_4, ml_5, ml_6, ml_7, ml_8, ml_9, ml_10, ml_11, ml_12, ml_13, ml_14, ml_16, ml_31, ml_32, ml_40, ml_42, ml_48, ml_50, ml_57, ml_59, ml_60, ml_63, ml_98, ml_100, ml_103, ml_104, ml_105, ml_106, ml_107, ml_108, ml_109, ml_110, ml_111, ml_112, ml_113, ml_114, ml_115, ml_120, ml_127, ml_176, ml_180, ml_200, ml_254, ml_255, ml_256, ml_300, ml_728, ml_832, ml_65536, cn, ebc, h0, Nat.le_refl]
    · obtain ⟨p1, p2⟩ := ms_pn_b hc (σ := σ) (m := m) (c := c) (by omega)
      have p3 : ¬ ms_pn σ m = 0 := by omega
      obtain ⟨A1, A2, -⟩ := mf_A (ms_ho σ m c) (by omega)
      obtain ⟨-, -, W3, W4, -, -⟩ := mf_W _ hh
      obtain ⟨B1, B2, -⟩ := mf_B _ hh _ p2 hl p1
      have S1 := (mf_S (ms_ho σ m c) (by omega) _ hh _ p2 hl p1).1.1
      unfold ms_cost at S1
      rw [if_neg h0] at S1
      unfold mf_c1 mf_c2 at S1
      unfold mf_c1 at A2
      unfold mf_c2 at B2
      simp (discharger := omega) only [f_X7_costOfRun_L8, nI_add, mt_mul, nI_clamp, nI_leI, nI_ltI, nI_eq, mt_in_t, mt_b1, mt_b2, mt_b3, mt_b4, mt_l, mt_g, ↓reduceIte, Nat.reduceEqDiff, Nat.reduceLeDiff, ml_0, ml_1, ml_2, ml_3, ml_4, ml_5, ml_6, ml_7, ml_8, ml_9, ml_10, ml_11, ml_12, ml_13, ml_14, ml_16, ml_31, ml_32, ml_40, ml_42, ml_48, ml_50, ml_57, ml_59, ml_60, ml_63, ml_98, ml_100, ml_103, ml_104, ml_105, ml_106, ml_107, ml_108, ml_109, ml_110, ml_111, ml_112, ml_113, ml_114, ml_115, ml_120, ml_127, ml_176, ml_180, ml_200, ml_254, ml_255, ml_256, ml_300, ml_728, ml_832, ml_65536, cn, ebc, ed, h0, p3, A1, A2, W3, W4, B1, B2, S1, Nat.le_refl]
      rfl
  · intro n i hi
    have e4 : a j 5 i = nI (σ (4 + 6 * i + 4)) := by rw [ha 5 (by decide)]; exact mt_C_g hC (w := 4) (by decide) hi
    have e0 : a j 1 i = nI (σ (4 + 6 * i + 0)) := by rw [ha 1 (by decide)]; exact mt_C_g hC (w := 0) (by decide) hi
    have q := mc_isInC e4 (hok.2 i hi).2.2.2.2 (by omega) hm
    have b0 := (hok.2 i hi).1
    have hi' : ¬ σ 0 ≤ i := by omega
    by_cases h1 : σ (4 + 6 * i + 4) = m + 1
    · by_cases h2 : σ (4 + 6 * i + 0) = c
      · simp (discharger := omega) only [f_X7_costOfRun_L8, f_X7_costOfRun_J44, nI_add, mt_mul, nI_clamp, nI_leI, nI_ltI, nI_eq, mt_in_t, mt_b1, mt_b2, mt_b3, mt_b4, mt_l, mt_g, ↓reduceIte, Nat.reduceEqDiff, Nat.reduceLeDiff, ml_0, ml_1, ml_2, ml_3, ml_4, ml_5, ml_6, ml_7, ml_8, ml_9, ml_10, ml_11, ml_12, ml_13, ml_14, ml_16, ml_31, ml_32, ml_40, ml_42, ml_48, ml_50, ml_57, ml_59, ml_60, ml_63, ml_98, ml_100, ml_103, ml_104, ml_105, ml_106, ml_107, ml_108, ml_109, ml_110, ml_111, ml_112, ml_113, ml_114, ml_115, ml_120, ml_127, ml_176, ml_180, ml_200, ml_254, ml_255, ml_256, ml_300, ml_728, ml_832, ml_65536, cn, hi', q, h1, h2, e0, mt_shl, mt_or, mt_sm, fa_or, and_self, true_and]
      · simp (discharger := omega) only [f_X7_costOfRun_L8, f_X7_costOfRun_J44, nI_add, mt_mul, nI_clamp, nI_leI, nI_ltI, nI_eq, mt_in_t, mt_b1, mt_b2, mt_b3, mt_b4, mt_l, mt_g, ↓reduceIte, Nat.reduceEqDiff, Nat.reduceLeDiff, ml_0, ml_1, ml_2, ml_3, ml_4, ml_5, ml_6, ml_7, ml_8, ml_9, ml_10, ml_11, ml_12, ml_13, ml_14, ml_16, ml_31, ml_32, ml_40, ml_42, ml_48, ml_50, ml_57, ml_59, ml_60, ml_63, ml_98, ml_100, ml_103, ml_104, ml_105, ml_106, ml_107, ml_108, ml_109, ml_110, ml_111, ml_112, ml_113, ml_114, ml_115, ml_120, ml_127, ml_176, ml_180, ml_200, ml_254, ml_255, ml_256, ml_300, ml_728, ml_832, ml_65536, cn, hi', q, h1, h2, e0, mt_shl, mt_or, mt_sm, fa_or, and_false]
    · simp (discharger := omega) only [f_X7_costOfRun_L8, nI_add, mt_mul, nI_clamp, nI_leI, nI_ltI, nI_eq, mt_in_t, mt_b1, mt_b2, mt_b3, mt_b4, mt_l, mt_g, ↓reduceIte, Nat.reduceEqDiff, Nat.reduceLeDiff, ml_0, ml_1, ml_2, ml_3, ml_4, ml_5, ml_6, ml_7, ml_8, ml_9, ml_10, ml_11, ml_12, ml_13, ml_14, ml_16, ml_31, ml_32, ml_40, ml_42, ml_48, ml_50, ml_57, ml_59, ml_60, ml_63, ml_98, ml_100, ml_103, ml_104, ml_105, ml_106, ml_107, ml_108, ml_109, ml_110, ml_111, ml_112, ml_113, ml_114, ml_115, ml_120, ml_127, ml_176, ml_180, ml_200, ml_254, ml_255, ml_256, ml_300, ml_728, ml_832, ml_65536, cn, hi', q, h1, mt_or, mt_sm, false_and, Nat.or_zero, Nat.add_zero]
end MK
