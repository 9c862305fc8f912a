/-! the mathematics, 11: pairs of socks -/
abbrev ms_pr (σ : Nat → Nat) (c d i : Nat) : Prop := σ (4 + 6 * i + 1) = 1 ∧ σ (4 + 6 * i + 4) = 0 ∧ σ (4 + 6 * i + 0) = c ∧ σ (4 + 6 * i + 2) = d
def ms_kk (σ : Nat → Nat) (c d i : Nat) : Nat := mt_sm (fun g => if ms_pr σ c d g then 1 else 0) i
def ms_o (σ : Nat → Nat) (c d g : Nat) : Nat → Option Nat × Option Nat
  | 0 => (none, none)
  | i + 1 => match ms_o σ c d g i with
    | (w, some r) => (w, some r)
    | (w, none) => if ms_pr σ c d i then (match w with
      | none => (some i, none)
      | some q => if q = g then (some q, some i) else if i = g then (some q, some q) else (none, none)) else (w, none)
def ms_en : Option Nat → Int32
  | none => nI 4294967295
  | some r => nI r
theorem ms_o_k {σ : Nat → Nat} {c d g i : Nat} {w : Option Nat} {r : Nat} (h : ms_o σ c d g i = (w, some r)) : ∀ k, ms_o σ c d g (i + k) = (w, some r)
  | 0 => h
  | k + 1 => by
    show ms_o σ c d g (i + k + 1) = _
    rw [ms_o, ms_o_k h k]
theorem ms_o_le {σ : Nat → Nat} {c d g i n : Nat} {w : Option Nat} {r : Nat} (h : ms_o σ c d g i = (w, some r)) (hn : i ≤ n) : ms_o σ c d g n = (w, some r) := by
  have := ms_o_k h (n - i)
  rw [show i + (n - i) = n by omega] at this
  exact this
theorem ms_o_n {σ : Nat → Nat} {c d g i : Nat} {w : Option Nat} (h : ms_o σ c d g i = (w, none)) (hp : ¬ ms_pr σ c d i) : ms_o σ c d g (i + 1) = (w, none) := by
  rw [ms_o, h]
  exact if_neg hp
theorem ms_o_0 {σ : Nat → Nat} {c d g i : Nat} (h : ms_o σ c d g i = (none, none)) (hp : ms_pr σ c d i) : ms_o σ c d g (i + 1) = (some i, none) := by
  rw [ms_o, h]
  exact if_pos hp
theorem ms_o_1 {σ : Nat → Nat} {c d g i : Nat} (h : ms_o σ c d g i = (some g, none)) (hp : ms_pr σ c d i) : ms_o σ c d g (i + 1) = (some g, some i) := by
  rw [ms_o, h]
  refine (if_pos hp).trans ?_
  exact if_pos rfl
theorem ms_o_2 {σ : Nat → Nat} {c d g q : Nat} (h : ms_o σ c d g g = (some q, none)) (hp : ms_pr σ c d g) (hq : q ≠ g) : ms_o σ c d g (g + 1) = (some q, some q) := by
  rw [ms_o, h]
  refine (if_pos hp).trans ?_
  refine (if_neg hq).trans ?_
  exact if_pos rfl
theorem ms_o_3 {σ : Nat → Nat} {c d g i q : Nat} (h : ms_o σ c d g i = (some q, none)) (hp : ms_pr σ c d i) (hq : q ≠ g) (hi : i ≠ g) : ms_o σ c d g (i + 1) = (none, none) := by
  rw [ms_o, h]
  refine (if_pos hp).trans ?_
  refine (if_neg hq).trans ?_
  exact if_neg hi
theorem mt_neg2 : ¬ nI 0 ≤ nI 4294967295 := by decide +kernel
theorem mt_neg3 : ∀ q, q < 16 → ¬ nI q = nI 4294967295 := by decide +kernel
theorem mt_neg4 : ∀ q, q < 16 → nI 4294967295 ≤ nI q := by decide +kernel
section MP
variable {μ : fw_M} {j : Nat} {σ : Nat → Nat}
theorem mc_couldPair (hC : mt_C μ j σ) (hok : mt_k σ) {g i : Nat} (hg : g < σ 0) (hi : i < σ 0) : f_X6_couldPair μ j (nI i) (nI g) = some (nI (if ms_pr σ (σ (4 + 6 * g + 0)) (σ (4 + 6 * g + 2)) i then 1 else 0)) := by
  have h16 := hok.1
  have i1 : μ j 2 i = nI (σ (4 + 6 * i + 1)) := mt_C_g hC (w := 1) (by decide) hi
  have i2 : μ j 3 i = nI (σ (4 + 6 * i + 2)) := mt_C_g hC (w := 2) (by decide) hi
  have g0 : μ j 1 g = nI (σ (4 + 6 * g + 0)) := mt_C_g hC (w := 0) (by decide) hg
  have g2 : μ j 3 g = nI (σ (4 + 6 * g + 2)) := mt_C_g hC (w := 2) (by decide) hg
  have e := mc_isInBagOf hC hok hi (hok.2 g hg).1
  have b1 := (hok.2 i hi).2.1
  have b2 := (hok.2 i hi).2.2.1
  have b3 := (hok.2 g hg).2.2.1
  by_cases p1 : σ (4 + 6 * i + 1) = 1
  · by_cases p2 : σ (4 + 6 * i + 4) = 0 ∧ σ (4 + 6 * i + 0) = σ (4 + 6 * g + 0)
    · rw [if_pos p2] at e
      by_cases p3 : σ (4 + 6 * i + 2) = σ (4 + 6 * g + 2)
      · rw [if_pos ⟨p1, p2.1, p2.2, p3⟩]
        simp (discharger := omega) only [f_X6_couldPair, nI_add, mt_mul, nI_clamp, nI_leI, nI_ltI, nI_eq, mt_in_t, mt_b1, mt_b2, mt_b3, mt_b4, mt_l, mt_g, ↓reduceIte, Nat.reduceEqDiff, Nat.reduceLeDiff, ml_0, ml_1, ml_2, ml_3, ml_4, ml_5, ml_6, ml_7, ml_8, ml_9, ml_10, ml_11, ml_12, ml_13, ml_14, ml_16, ml_31, ml_32, ml_40, ml_42, ml_48, ml_50, ml_57, ml_59, ml_60, ml_63, ml_98, ml_100, ml_103, ml_104, ml_105, ml_106, ml_107, ml_108, ml_109, ml_110, ml_111, ml_112, ml_113, ml_114, ml_115, ml_120, ml_127, ml_176, ml_180, ml_200, ml_254, ml_255, ml_256, ml_300, ml_728, ml_832, ml_65536, i1, i2, g0, g2, p1, p3, e]
      · rw [if_neg (fun z => p3 z.2.2.2)]
        simp (discharger := omega) only [f_X6_couldPair, nI_add, mt_mul, nI_clamp, nI_leI, nI_ltI, nI_eq, mt_in_t, mt_b1, mt_b2, mt_b3, mt_b4, mt_l, mt_g, ↓reduceIte, Nat.reduceEqDiff, Nat.reduceLeDiff, ml_0, ml_1, ml_2, ml_3, ml_4, ml_5, ml_6, ml_7, ml_8, ml_9, ml_10, ml_11, ml_12, ml_13, ml_14, ml_16, ml_31, ml_32, ml_40, ml_42, ml_48, ml_50, ml_57, ml_59, ml_60, ml_63, ml_98, ml_100, ml_103, ml_104, ml_105, ml_106, ml_107, ml_108, ml_109, ml_110, ml_111, ml_112, ml_113, ml_114, ml_115, ml_120, ml_127, ml_176, ml_180, ml_200, ml_254, ml_255, ml_256, ml_300, ml_728, ml_832, ml_65536, i1, i2, g0, g2, p1, p3, e]
    · rw [if_neg p2] at e
      rw [if_neg (fun z => p2 ⟨z.2.1, z.2.2.1⟩)]
      simp (discharger := omega) only [f_X6_couldPair, nI_add, mt_mul, nI_clamp, nI_leI, nI_ltI, nI_eq, mt_in_t, mt_b1, mt_b2, mt_b3, mt_b4, mt_l, mt_g, ↓reduceIte, Nat.reduceEqDiff, Nat.reduceLeDiff, ml_0, ml_1, ml_2, ml_3, ml_4, ml_5, ml_6, ml_7, ml_8, ml_9, ml_10, ml_11, ml_12, ml_13, ml_14, ml_16, ml_31, ml_32, ml_40, ml_42, ml_48, ml_50, ml_57, ml_59, ml_60, ml_63, ml_98, ml_100, ml_103, ml_104, ml_105, ml_106, ml_107, ml_108, ml_109, ml_110, ml_111, ml_112, ml_113, ml_114, ml_115, ml_120, ml_127, ml_176, ml_180, ml_200, ml_254, ml_255, ml_256, ml_300, ml_728, ml_832, ml_65536, i1, g0, p1, e]
  · have p1' : σ (4 + 6 * i + 1) = 0 := by omega
    rw [if_neg (fun z => p1 z.1)]
    simp (discharger := omega) only [f_X6_couldPair, nI_add, mt_mul, nI_clamp, nI_leI, nI_ltI, nI_eq, mt_in_t, mt_b1, mt_b2, mt_b3, mt_b4, mt_l, mt_g, ↓reduceIte, Nat.reduceEqDiff, Nat.reduceLeDiff, ml_0, ml_1, ml_2, ml_3, ml_4, ml_5, ml_6, ml_7, ml_8, ml_9, ml_10, ml_11, ml_12, ml_13, ml_14, ml_16, ml_31, ml_32, ml_40, ml_42, ml_48, ml_50, ml_57, ml_59, ml_60, ml_63, ml_98, ml_100, ml_103, ml_104, ml_105, ml_106, ml_107, ml_108, ml_109, ml_110, ml_111, ml_112, ml_113, ml_114, ml_115, ml_120, ml_127, ml_176, ml_180, ml_200, ml_254, ml_255, ml_256, ml_300, ml_728, ml_832, ml_65536, i1, p1']
theorem mc_otherSock (hC : mt_C μ j σ) (hok : mt_k σ) {g : Nat} (hg : g < σ 0) : f_X6_otherSock μ j (nI g) = some (ms_en (ms_o σ (σ (4 + 6 * g + 0)) (σ (4 + 6 * g + 2)) g (σ 0)).2) := by
  have h16 := hok.1
  have cn := hC.1
  unfold f_X6_otherSock
  refine mt_while (L := fun n (a : Int32) i => f_X6_otherSock_L4 μ j n (nI g) a i) (I := fun i a => ∃ w, ms_o σ (σ (4 + 6 * g + 0)) (σ (4 + 6 * g + 2)) g i = (w, none) ∧ a = ms_en w ∧ ∀ q, w = some q → q < i) (P := fun r => r = some (ms_en (ms_o σ (σ (4 + 6 * g + 0)) (σ (4 + 6 * g + 2)) g (σ 0)).2)) (N := σ 0) ?_ ?_ (σ 0) 1000 (-1 : Int32) 0 (by omega) (by omega) ⟨none, rfl, rfl, fun q z => by cases z⟩
  · rintro n a ⟨w, h1, h2, h3⟩
    rw [h1]
    simp (discharger := omega) only [f_X6_otherSock_L4, nI_add, mt_mul, nI_clamp, nI_leI, nI_ltI, nI_eq, mt_in_t, mt_b1, mt_b2, mt_b3, mt_b4, mt_l, mt_g, ↓reduceIte, Nat.reduceEqDiff, Nat.reduceLeDiff, ml_0, ml_1, ml_2, ml_3, ml_4, ml_5, ml_6, ml_7, ml_8, ml_9, ml_10, ml_11, ml_12, ml_13, ml_14, ml_16, ml_31, ml_32, ml_40, ml_42, ml_48, ml_50, ml_57, ml_59, ml_60, ml_63, ml_98, ml_100, ml_103, ml_104, ml_105, ml_106, ml_107, ml_108, ml_109, ml_110, ml_111, ml_112, ml_113, ml_114, ml_115, ml_120, ml_127, ml_176, ml_180, ml_200, ml_254, ml_255, ml_256, ml_300, ml_728, ml_832, ml_65536, cn, ml_m1, Nat.le_refl]
    rfl
  · rintro n a i hi ⟨w, h1, rfl, h3⟩
    have e := mc_couldPair hC hok hg hi
    have hi' : ¬ σ 0 ≤ i := by omega
    by_cases p : ms_pr σ (σ (4 + 6 * g + 0)) (σ (4 + 6 * g + 2)) i
    · rw [if_pos p] at e
      cases w with
      | none =>
        left
        have e2 := mt_neg2
        refine ⟨nI i, ⟨some i, ms_o_0 h1 p, rfl, fun q z => by cases z; omega⟩, ?_⟩
        show f_X6_otherSock_L4 μ j (n + 1) (nI g) (nI 4294967295) (nI i) = _
        simp (discharger := omega) only [f_X6_otherSock_L4, nI_add, mt_mul, nI_clamp, nI_leI, nI_ltI, nI_eq, mt_in_t, mt_b1, mt_b2, mt_b3, mt_b4, mt_l, mt_g, ↓reduceIte, Nat.reduceEqDiff, Nat.reduceLeDiff, ml_0, ml_1, ml_2, ml_3, ml_4, ml_5, ml_6, ml_7, ml_8, ml_9, ml_10, ml_11, ml_12, ml_13, ml_14, ml_16, ml_31, ml_32, ml_40, ml_42, ml_48, ml_50, ml_57, ml_59, ml_60, ml_63, ml_98, ml_100, ml_103, ml_104, ml_105, ml_106, ml_107, ml_108, ml_109, ml_110, ml_111, ml_112, ml_113, ml_114, ml_115, ml_120, ml_127, ml_176, ml_180, ml_200, ml_254, ml_255, ml_256, ml_300, ml_728, ml_832, ml_65536, cn, hi', e, e2]
      | some q =>
        have hq := h3 q rfl
        have e2 : nI 0 ≤ nI q := nI_le (Nat.zero_le q) (by omega)
        by_cases q1 : q = g
        · right
          subst q1
          rw [ms_o_le (ms_o_1 h1 p) (by omega)]
          show f_X6_otherSock_L4 μ j (n + 1) (nI q) (nI q) (nI i) = some (nI i)
          simp (discharger := omega) only [f_X6_otherSock_L4, nI_add, mt_mul, nI_clamp, nI_leI, nI_ltI, nI_eq, mt_in_t, mt_b1, mt_b2, mt_b3, mt_b4, mt_l, mt_g, ↓reduceIte, Nat.reduceEqDiff, Nat.reduceLeDiff, ml_0, ml_1, ml_2, ml_3, ml_4, ml_5, ml_6, ml_7, ml_8, ml_9, ml_10, ml_11, ml_12, ml_13, ml_14, ml_16, ml_31, ml_32, ml_40, ml_42, ml_48, ml_50, ml_57, ml_59, ml_60, ml_63, ml_98, ml_100, ml_103, ml_104, ml_105, ml_106, ml_107, ml_108, ml_109, ml_110, ml_111, ml_112, ml_113, ml_114, ml_115, ml_120, ml_127, ml_176, ml_180, ml_200, ml_254, ml_255, ml_256, ml_300, ml_728, ml_832, ml_65536, cn, hi', e, e2, Nat.zero_le]
        · by_cases q2 : i = g
          · right
            subst q2
            rw [ms_o_le (ms_o_2 h1 p q1) (by omega)]
            show f_X6_otherSock_L4 μ j (n + 1) (nI i) (nI q) (nI i) = some (nI q)
            simp (discharger := omega) only [f_X6_otherSock_L4, nI_add, mt_mul, nI_clamp, nI_leI, nI_ltI, nI_eq, mt_in_t, mt_b1, mt_b2, mt_b3, mt_b4, mt_l, mt_g, ↓reduceIte, Nat.reduceEqDiff, Nat.reduceLeDiff, ml_0, ml_1, ml_2, ml_3, ml_4, ml_5, ml_6, ml_7, ml_8, ml_9, ml_10, ml_11, ml_12, ml_13, ml_14, ml_16, ml_31, ml_32, ml_40, ml_42, ml_48, ml_50, ml_57, ml_59, ml_60, ml_63, ml_98, ml_100, ml_103, ml_104, ml_105, ml_106, ml_107, ml_108, ml_109, ml_110, ml_111, ml_112, ml_113, ml_114, ml_115, ml_120, ml_127, ml_176, ml_180, ml_200, ml_254, ml_255, ml_256, ml_300, ml_728, ml_832, ml_65536, cn, hi', e, e2, q1, Nat.zero_le]
          · left
            refine ⟨nI 4294967295, ⟨none, ms_o_3 h1 p q1 q2, rfl, fun q z => by cases z⟩, ?_⟩
            show f_X6_otherSock_L4 μ j (n + 1) (nI g) (nI q) (nI i) = _
            simp (discharger := omega) only [f_X6_otherSock_L4, nI_add, mt_mul, nI_clamp, nI_leI, nI_ltI, nI_eq, mt_in_t, mt_b1, mt_b2, mt_b3, mt_b4, mt_l, mt_g, ↓reduceIte, Nat.reduceEqDiff, Nat.reduceLeDiff, ml_0, ml_1, ml_2, ml_3, ml_4, ml_5, ml_6, ml_7, ml_8, ml_9, ml_10, ml_11, ml_12, ml_13, ml_14, ml_16, ml_31, ml_32, ml_40, ml_42, ml_48, ml_50, ml_57, ml_59, ml_60, ml_63, ml_98, ml_100, ml_103, ml_104, ml_105, ml_106, ml_107, ml_108, ml_109, ml_110, ml_111, ml_112, ml_113, ml_114, ml_115, ml_120, ml_127, ml_176, ml_180, ml_200, ml_254, ml_255, ml_256, ml_300, ml_728, ml_832, ml_65536, cn, hi', e, e2, q1, q2, ml_m1, Nat.zero_le]
    · rw [if_neg p] at e
      left
      refine ⟨ms_en w, ⟨w, ms_o_n h1 p, rfl, fun q z => by have := h3 q z; omega⟩, ?_⟩
      simp (discharger := omega) only [f_X6_otherSock_L4, nI_add, mt_mul, nI_clamp, nI_leI, nI_ltI, nI_eq, mt_in_t, mt_b1, mt_b2, mt_b3, mt_b4, mt_l, mt_g, ↓reduceIte, Nat.reduceEqDiff, Nat.reduceLeDiff, ml_0, ml_1, ml_2, ml_3, ml_4, ml_5, ml_6, ml_7, ml_8, ml_9, ml_10, ml_11, ml_12, ml_13, ml_14, ml_16, ml_31, ml_32, ml_40, ml_42, ml_48, ml_50, ml_57, ml_59, ml_60, ml_63, ml_98, ml_100, ml_103, ml_104, ml_105, ml_106, ml_107, ml_108, ml_109, ml_110, ml_111, ml_112, ml_113, ml_114, ml_115, ml_120, ml_127, ml_176, ml_180, ml_200, ml_254, ml_255, ml_256, ml_300, ml_728, ml_832, ml_65536, cn, hi', e]
theorem mr_isSockIn (hM : mt_M μ 19 0 σ) (hok : mt_k σ) {c d i : Nat} (hi : i < σ 0) (hc : c < 4) (hd : d < 8) : f_X10_isSockIn μ (nI i) (nI c) (nI d) = some (nI (if ms_pr σ c d i then 1 else 0)) := by
  have h16 := hok.1
  have i0 := mr_of hM (g := i) (w := 0) (by omega) (by decide)
  have i1 := mr_of hM (g := i) (w := 1) (by omega) (by decide)
  have i2 := mr_of hM (g := i) (w := 2) (by omega) (by decide)
  have i4 := mr_of hM (g := i) (w := 4) (by omega) (by decide)
  obtain ⟨b0, b1, b2, b3, b4⟩ := hok.2 i hi
  by_cases p1 : σ (4 + 6 * i + 1) = 1
  · by_cases p2 : σ (4 + 6 * i + 4) = 0
    · by_cases p3 : σ (4 + 6 * i + 0) = c
      · by_cases p4 : σ (4 + 6 * i + 2) = d
        · rw [if_pos ⟨p1, p2, p3, p4⟩]
          simp (discharger := omega) only [f_X10_isSockIn, nI_add, mt_mul, nI_clamp, nI_leI, nI_ltI, nI_eq, mt_in_t, mt_b1, mt_b2, mt_b3, mt_b4, mt_l, mt_g, ↓reduceIte, Nat.reduceEqDiff, Nat.reduceLeDiff, ml_0, ml_1, ml_2, ml_3, ml_4, ml_5, ml_6, ml_7, ml_8, ml_9, ml_10, ml_11, ml_12, ml_13, ml_14, ml_16, ml_31, ml_32, ml_40, ml_42, ml_48, ml_50, ml_57, ml_59, ml_60, ml_63, ml_98, ml_100, ml_103, ml_104, ml_105, ml_106, ml_107, ml_108, ml_109, ml_110, ml_111, ml_112, ml_113, ml_114, ml_115, ml_120, ml_127, ml_176, ml_180, ml_200, ml_254, ml_255, ml_256, ml_300, ml_728, ml_832, ml_65536, i0, i1, i2, i4, p1, p2, p3, p4]
        · rw [if_neg (fun z => p4 z.2.2.2)]
          simp (discharger := omega) only [f_X10_isSockIn, nI_add, mt_mul, nI_clamp, nI_leI, nI_ltI, nI_eq, mt_in_t, mt_b1, mt_b2, mt_b3, mt_b4, mt_l, mt_g, ↓reduceIte, Nat.reduceEqDiff, Nat.reduceLeDiff, ml_0, ml_1, ml_2, ml_3, ml_4, ml_5, ml_6, ml_7, ml_8, ml_9, ml_10, ml_11, ml_12, ml_13, ml_14, ml_16, ml_31, ml_32, ml_40, ml_42, ml_48, ml_50, ml_57, ml_59, ml_60, ml_63, ml_98, ml_100, ml_103, ml_104, ml_105, ml_106, ml_107, ml_108, ml_109, ml_110, ml_111, ml_112, ml_113, ml_114, ml_115, ml_120, ml_127, ml_176, ml_180, ml_200, ml_254, ml_255, ml_256, ml_300, ml_728, ml_832, ml_65536, i0, i1, i2, i4, p1, p2, p3, p4]
      · rw [if_neg (fun z => p3 z.2.2.1)]
        simp (discharger := omega) only [f_X10_isSockIn, nI_add, mt_mul, nI_clamp, nI_leI, nI_ltI, nI_eq, mt_in_t, mt_b1, mt_b2, mt_b3, mt_b4, mt_l, mt_g, ↓reduceIte, Nat.reduceEqDiff, Nat.reduceLeDiff, ml_0, ml_1, ml_2, ml_3, ml_4, ml_5, ml_6, ml_7, ml_8, ml_9, ml_10, ml_11, ml_12, ml_13, ml_14, ml_16, ml_31, ml_32, ml_40, ml_42, ml_48, ml_50, ml_57, ml_59, ml_60, ml_63, ml_98, ml_100, ml_103, ml_104, ml_105, ml_106, ml_107, ml_108, ml_109, ml_110, ml_111, ml_112, ml_113, ml_114, ml_115, ml_120, ml_127, ml_176, ml_180, ml_200, ml_254, ml_255, ml_256, ml_300, ml_728, ml_832, ml_65536, i0, i1, i2, i4, p1, p2, p3]
    · rw [if_neg (fun z => p2 z.2.1)]
      simp (discharger := omega) only [f_X10_isSockIn, nI_add, mt_mul, nI_clamp, nI_leI, nI_ltI, nI_eq, mt_in_t, mt_b1, mt_b2, mt_b3, mt_b4, mt_l, mt_g, ↓reduceIte, Nat.reduceEqDiff, Nat.reduceLeDiff, ml_0, ml_1, ml_2, ml_3, ml_4, ml_5, ml_6, ml_7, ml_8, ml_9, ml_10, ml_11, ml_12, ml_13, ml_14, ml_16, ml_31, ml_32, ml_40, ml_42, ml_48, ml_50, ml_57, ml_59, ml_60, ml_63, ml_98, ml_100, ml_103, ml_104, ml_105, ml_106, ml_107, ml_108, ml_109, ml_110, ml_111, ml_112, ml_113, ml_114, ml_115, ml_120, ml_127, ml_176, ml_180, ml_200, ml_254, ml_255, ml_256, ml_300, ml_728, ml_832, ml_65536, i0, i1, i2, i4, p1, p2]
  · rw [if_neg (fun z => p1 z.1)]
    simp (discharger := omega) only [f_X10_isSockIn, nI_add, mt_mul, nI_clamp, nI_leI, nI_ltI, nI_eq, mt_in_t, mt_b1, mt_b2, mt_b3, mt_b4, mt_l, mt_g, ↓reduceIte, Nat.reduceEqDiff, Nat.reduceLeDiff, ml_0, ml_1, ml_2, ml_3, ml_4, ml_5, ml_6, ml_7, ml_8, ml_9, ml_10, ml_11, ml_12, ml_13, ml_14, ml_16, ml_31, ml_32, ml_40, ml_42, ml_48, ml_50, ml_57, ml_59, ml_60, ml_63, ml_98, ml_100, ml_103, ml_104, ml_105, ml_106, ml_107, ml_108, ml_109, ml_110, ml_111, ml_112, ml_113, ml_114, ml_115, ml_120, ml_127, ml_176, ml_180, ml_200, ml_254, ml_255, ml_256, ml_300, ml_728, ml_832, ml_65536, i0, i1, i2, i4, p1]
/-- a garment that is no sock in a bag finds no other -/
theorem ms_o_no {c d g : Nat} (hp : ¬ ms_pr σ c d g) : ∀ i, (ms_o σ c d g i).2 = none ∧ (ms_o σ c d g i).1 ≠ some g
  | 0 => ⟨rfl, fun z => by cases z⟩
  | i + 1 => by
    obtain ⟨h1, h2⟩ := ms_o_no hp i
    rcases hh : ms_o σ c d g i with ⟨w, r⟩
    rw [hh] at h1 h2
    have h1 : r = none := h1
    subst h1
    by_cases p : ms_pr σ c d i
    · have hig : i ≠ g := fun z => hp (z ▸ p)
      cases w with
      | none =>
        rw [ms_o_0 hh p]
        exact ⟨rfl, fun z => hig (Option.some.inj z)⟩
      | some q =>
        have hq : q ≠ g := fun z => h2 (congrArg some z)
        rw [ms_o_3 hh p hq hig]
        exact ⟨rfl, fun z => by cases z⟩
    · rw [ms_o_n hh p]
      exact ⟨rfl, h2⟩
theorem mr_other (hM : mt_M μ 19 0 σ) (hok : mt_k σ) {g : Nat} (hg : g < σ 0) : f_X10_other μ (nI g) = some (ms_en (ms_o σ (σ (4 + 6 * g + 0)) (σ (4 + 6 * g + 2)) g (σ 0)).2) := by
  have h16 := hok.1
  have cn := mt_at hM (i := 0) (by decide)
  have g0 := mr_of hM (g := g) (w := 0) (by omega) (by decide)
  have g2 := mr_of hM (g := g) (w := 2) (by omega) (by decide)
  have g4 := mr_of hM (g := g) (w := 4) (by omega) (by decide)
  obtain ⟨b0, b1, b2, b3, b4⟩ := hok.2 g hg
  by_cases p4 : σ (4 + 6 * g + 4) = 0
  · have key : f_X10_other_L15 μ 1000 (nI g) (nI 4294967295) (nI 0) = some (ms_en (ms_o σ (σ (4 + 6 * g + 0)) (σ (4 + 6 * g + 2)) g (σ 0)).2) := by
      refine mt_while (L := fun n (a : Int32) i => f_X10_other_L15 μ n (nI g) a i) (I := fun i a => ∃ w, ms_o σ (σ (4 + 6 * g + 0)) (σ (4 + 6 * g + 2)) g i = (w, none) ∧ a = ms_en w ∧ ∀ q, w = some q → q < i) (P := fun r => r = some (ms_en (ms_o σ (σ (4 + 6 * g + 0)) (σ (4 + 6 * g + 2)) g (σ 0)).2)) (N := σ 0) ?_ ?_ (σ 0) 1000 (nI 4294967295) 0 (by omega) (by omega) ⟨none, rfl, rfl, fun q z => by cases z⟩
      · rintro n a ⟨w, h1, h2, h3⟩
        rw [h1]
        simp (discharger := omega) only [f_X10_other_L15, nI_add, mt_mul, nI_clamp, nI_leI, nI_ltI, nI_eq, mt_in_t, mt_b1, mt_b2, mt_b3, mt_b4, mt_l, mt_g, ↓reduceIte, Nat.reduceEqDiff, Nat.reduceLeDiff, ml_0, ml_1, ml_2, ml_3, ml_4, ml_5, ml_6, ml_7, ml_8, ml_9, ml_10, ml_11, ml_12, ml_13, ml_14, ml_16, ml_31, ml_32, ml_40, ml_42, ml_48, ml_50, ml_57, ml_59, ml_60, ml_63, ml_98, ml_100, ml_103, ml_104, ml_105, ml_106, ml_107, ml_108, ml_109, ml_110, ml_111, ml_112, ml_113, ml_114, ml_115, ml_120, ml_127, ml_176, ml_180, ml_200, ml_254, ml_255, ml_256, ml_300, ml_728, ml_832, ml_65536, cn, ml_m1, Nat.le_refl]
        rfl
      · rintro n a i hi ⟨w, h1, rfl, h3⟩
        have e := mr_isSockIn hM hok hi b0 b2
        have hi' : ¬ σ 0 ≤ i := by omega
        by_cases p : ms_pr σ (σ (4 + 6 * g + 0)) (σ (4 + 6 * g + 2)) i
        · rw [if_pos p] at e
          cases w with
          | none =>
            left
            refine ⟨nI i, ⟨some i, ms_o_0 h1 p, rfl, fun q z => by cases z; omega⟩, ?_⟩
            show f_X10_other_L15 μ (n + 1) (nI g) (nI 4294967295) (nI i) = _
            simp (discharger := omega) only [f_X10_other_L15, nI_add, mt_mul, nI_clamp, nI_leI, nI_ltI, nI_eq, mt_in_t, mt_b1, mt_b2, mt_b3, mt_b4, mt_l, mt_g, ↓reduceIte, Nat.reduceEqDiff, Nat.reduceLeDiff, ml_0, ml_1, ml_2, ml_3, ml_4, ml_5, ml_6, ml_7, ml_8, ml_9, ml_10, ml_11, ml_12, ml_13, ml_14, ml_16, ml_31, ml_32, ml_40, ml_42, ml_48, ml_50, ml_57, ml_59, ml_60, ml_63, ml_98, ml_100, ml_103, ml_104, ml_105, ml_106, ml_107, ml_108, ml_109, ml_110, ml_111, ml_112, ml_113, ml_114, ml_115, ml_120, ml_127, ml_176, ml_180, ml_200, ml_254, ml_255, ml_256, ml_300, ml_728, ml_832, ml_65536, cn, hi', g0, g2, e, ml_m1]
          | some q =>
            have hq := h3 q rfl
            have e2 := mt_neg3 q (by omega)
            by_cases q1 : q = g
            · right
              subst q1
              rw [ms_o_le (ms_o_1 h1 p) (by omega)]
              show f_X10_other_L15 μ (n + 1) (nI q) (nI q) (nI i) = some (nI i)
              simp (discharger := omega) only [f_X10_other_L15, nI_add, mt_mul, nI_clamp, nI_leI, nI_ltI, nI_eq, mt_in_t, mt_b1, mt_b2, mt_b3, mt_b4, mt_l, mt_g, ↓reduceIte, Nat.reduceEqDiff, Nat.reduceLeDiff, ml_0, ml_1, ml_2, ml_3, ml_4, ml_5, ml_6, ml_7, ml_8, ml_9, ml_10, ml_11, ml_12, ml_13, ml_14, ml_16, ml_31, ml_32, ml_40, ml_42, ml_48, ml_50, ml_57, ml_59, ml_60, ml_63, ml_98, ml_100, ml_103, ml_104, ml_105, ml_106, ml_107, ml_108, ml_109, ml_110, ml_111, ml_112, ml_113, ml_114, ml_115, ml_120, ml_127, ml_176, ml_180, ml_200, ml_254, ml_255, ml_256, ml_300, ml_728, ml_832, ml_65536, cn, hi', g0, g2, e, e2, ml_m1]
            · by_cases q2 : i = g
              · right
                subst q2
                rw [ms_o_le (ms_o_2 h1 p q1) (by omega)]
                show f_X10_other_L15 μ (n + 1) (nI i) (nI q) (nI i) = some (nI q)
                simp (discharger := omega) only [f_X10_other_L15, nI_add, mt_mul, nI_clamp, nI_leI, nI_ltI, nI_eq, mt_in_t, mt_b1, mt_b2, mt_b3, mt_b4, mt_l, mt_g, ↓reduceIte, Nat.reduceEqDiff, Nat.reduceLeDiff, ml_0, ml_1, ml_2, ml_3, ml_4, ml_5, ml_6, ml_7, ml_8, ml_9, ml_10, ml_11, ml_12, ml_13, ml_14, ml_16, ml_31, ml_32, ml_40, ml_42, ml_48, ml_50, ml_57, ml_59, ml_60, ml_63, ml_98, ml_100, ml_103, ml_104, ml_105, ml_106, ml_107, ml_108, ml_109, ml_110, ml_111, ml_112, ml_113, ml_114, ml_115, ml_120, ml_127, ml_176, ml_180, ml_200, ml_254, ml_255, ml_256, ml_300, ml_728, ml_832, ml_65536, cn, hi', g0, g2, e, e2, q1, ml_m1]
              · left
                refine ⟨nI 4294967295, ⟨none, ms_o_3 h1 p q1 q2, rfl, fun q z => by cases z⟩, ?_⟩
                show f_X10_other_L15 μ (n + 1) (nI g) (nI q) (nI i) = _
                simp (discharger := omega) only [f_X10_other_L15, nI_add, mt_mul, nI_clamp, nI_leI, nI_ltI, nI_eq, mt_in_t, mt_b1, mt_b2, mt_b3, mt_b4, mt_l, mt_g, ↓reduceIte, Nat.reduceEqDiff, Nat.reduceLeDiff, ml_0, ml_1, ml_2, ml_3, ml_4, ml_5, ml_6, ml_7, ml_8, ml_9, ml_10, ml_11, ml_12, ml_13, ml_14, ml_16, ml_31, ml_32, ml_40, ml_42, ml_48, ml_50, ml_57, ml_59, ml_60, ml_63, ml_98, ml_100, ml_103, ml_104, ml_105, ml_106, ml_107, ml_108, ml_109, ml_110, ml_111, ml_112, ml_113, ml_114, ml_115, ml_120, ml_127, ml_176, ml_180, ml_200, ml_254, ml_255, ml_256, ml_300, ml_728, ml_832, ml_65536, cn, hi', g0, g2, e, e2, q1, q2, ml_m1]
        · rw [if_neg p] at e
          left
          refine ⟨ms_en w, ⟨w, ms_o_n h1 p, rfl, fun q z => by have := h3 q z; omega⟩, ?_⟩
          simp (discharger := omega) only [f_X10_other_L15, nI_add, mt_mul, nI_clamp, nI_leI, nI_ltI, nI_eq, mt_in_t, mt_b1, mt_b2, mt_b3, mt_b4, mt_l, mt_g, ↓reduceIte, Nat.reduceEqDiff, Nat.reduceLeDiff, ml_0, ml_1, ml_2, ml_3, ml_4, ml_5, ml_6, ml_7, ml_8, ml_9, ml_10, ml_11, ml_12, ml_13, ml_14, ml_16, ml_31, ml_32, ml_40, ml_42, ml_48, ml_50, ml_57, ml_59, ml_60, ml_63, ml_98, ml_100, ml_103, ml_104, ml_105, ml_106, ml_107, ml_108, ml_109, ml_110, ml_111, ml_112, ml_113, ml_114, ml_115, ml_120, ml_127, ml_176, ml_180, ml_200, ml_254, ml_255, ml_256, ml_300, ml_728, ml_832, ml_65536, cn, hi', g0, g2, e]
    simp (discharger := omega) only [f_X10_other, nI_add, mt_mul, nI_clamp, nI_leI, nI_ltI, nI_eq, mt_in_t, mt_b1, mt_b2, mt_b3, mt_b4, mt_l, mt_g, ↓reduceIte, Nat.reduceEqDiff, Nat.reduceLeDiff, ml_0, ml_1, ml_2, ml_3, ml_4, ml_5, ml_6, ml_7, ml_8, ml_9, ml_10, ml_11, ml_12, ml_13, ml_14, ml_16, ml_31, ml_32, ml_40, ml_42, ml_48, ml_50, ml_57, ml_59, ml_60, ml_63, ml_98, ml_100, ml_103, ml_104, ml_105, ml_106, ml_107, ml_108, ml_109, ml_110, ml_111, ml_112, ml_113, ml_114, ml_115, ml_120, ml_127, ml_176, ml_180, ml_200, ml_254, ml_255, ml_256, ml_300, ml_728, ml_832, ml_65536, g4, p4, ml_m1, key]
  · rw [(ms_o_no (fun z => p4 z.2.1) (σ 0)).1]
    simp (discharger := omega) only [f_X10_other, nI_add, mt_mul, nI_clamp, nI_leI, nI_ltI, nI_eq, mt_in_t, mt_b1, mt_b2, mt_b3, mt_b4, mt_l, mt_g, ↓reduceIte, Nat.reduceEqDiff, Nat.reduceLeDiff, ml_0, ml_1, ml_2, ml_3, ml_4, ml_5, ml_6, ml_7, ml_8, ml_9, ml_10, ml_11, ml_12, ml_13, ml_14, ml_16, ml_31, ml_32, ml_40, ml_42, ml_48, ml_50, ml_57, ml_59, ml_60, ml_63, ml_98, ml_100, ml_103, ml_104, ml_105, ml_106, ml_107, ml_108, ml_109, ml_110, ml_111, ml_112, ml_113, ml_114, ml_115, ml_120, ml_127, ml_176, ml_180, ml_200, ml_254, ml_255, ml_256, ml_300, ml_728, ml_832, ml_65536, g4, p4, ml_m1]
    rfl
/-! how the pairs are counted -/
theorem ms_kk_s (c d i : Nat) : ms_kk σ c d (i + 1) = ms_kk σ c d i + if ms_pr σ c d i then 1 else 0 := rfl
theorem ms_kk_m {c d i : Nat} : ∀ k, ms_kk σ c d i ≤ ms_kk σ c d (i + k)
  | 0 => Nat.le_refl _
  | k + 1 => by
    have h1 := ms_kk_m (c := c) (d := d) (i := i) k
    have h2 := ms_kk_s (σ := σ) c d (i + k)
    show ms_kk σ c d i ≤ ms_kk σ c d (i + k + 1)
    omega
theorem ms_o_A {c d g : Nat} : ∀ i, i ≤ g → ∃ w, ms_o σ c d g i = (w, none) ∧ (w = none ↔ ms_kk σ c d i % 2 = 0) ∧ ∀ q, w = some q → q < i
  | 0, _ => ⟨none, rfl, ⟨fun _ => rfl, fun _ => rfl⟩, fun q z => by cases z⟩
  | i + 1, h => by
    obtain ⟨w, h1, h2, h3⟩ := ms_o_A (c := c) (d := d) (g := g) i (by omega)
    have hk := ms_kk_s (σ := σ) c d i
    by_cases p : ms_pr σ c d i
    · rw [if_pos p] at hk
      cases w with
      | none =>
        have := h2.mp rfl
        refine ⟨some i, ms_o_0 h1 p, ⟨fun z => (by cases z), fun z => by omega⟩, fun q z => by cases z; omega⟩
      | some q =>
        have hq := h3 q rfl
        have hne : ¬ ms_kk σ c d i % 2 = 0 := fun z => by cases h2.mpr z
        refine ⟨none, ms_o_3 h1 p (by omega) (by omega), ⟨fun _ => by omega, fun _ => rfl⟩, fun q z => by cases z⟩
    · rw [if_neg p] at hk
      refine ⟨w, ms_o_n h1 p, by rw [h2, hk]; rfl, fun q z => by have := h3 q z; omega⟩
theorem ms_o_B {c d g : Nat} (hp : ms_pr σ c d g) (he : ms_kk σ c d g % 2 = 0) : ∀ k, (ms_kk σ c d (g + 1 + k) = ms_kk σ c d (g + 1) ∧ ms_o σ c d g (g + 1 + k) = (some g, none)) ∨ (ms_kk σ c d (g + 1) < ms_kk σ c d (g + 1 + k) ∧ ∃ w r, ms_o σ c d g (g + 1 + k) = (w, some r) ∧ g < r ∧ r < g + 1 + k)
  | 0 => by
    obtain ⟨w, h1, h2, h3⟩ := ms_o_A (σ := σ) (c := c) (d := d) (g := g) g (Nat.le_refl g)
    have hw := h2.mpr he
    subst hw
    exact Or.inl ⟨rfl, ms_o_0 h1 hp⟩
  | k + 1 => by
    have hk := ms_kk_s (σ := σ) c d (g + 1 + k)
    rcases ms_o_B hp he k with ⟨h1, h2⟩ | ⟨h1, w, r, h2, h3, h4⟩
    · by_cases p : ms_pr σ c d (g + 1 + k)
      · rw [if_pos p] at hk
        exact Or.inr ⟨by show _ < ms_kk σ c d (g + 1 + k + 1); omega, some g, g + 1 + k, ms_o_1 h2 p, by omega, by omega⟩
      · rw [if_neg p] at hk
        exact Or.inl ⟨by show ms_kk σ c d (g + 1 + k + 1) = _; omega, ms_o_n h2 p⟩
    · exact Or.inr ⟨by show _ < ms_kk σ c d (g + 1 + k + 1); omega, w, r, ms_o_k h2 1, h3, by omega⟩
/-- the other sock stands behind g: g is an odd one of its colour, and one more follows -/
theorem ms_o_gt {c d g n : Nat} (hp : ms_pr σ c d g) (hg : g < n) (hn : n ≤ 16) : (¬ ms_en (ms_o σ c d g n).2 ≤ nI g) ↔ ms_kk σ c d g % 2 = 0 ∧ ms_kk σ c d g + 1 < ms_kk σ c d n := by
  have hk := ms_kk_s (σ := σ) c d g
  rw [if_pos hp] at hk
  by_cases he : ms_kk σ c d g % 2 = 0
  · have hB := ms_o_B hp he (n - (g + 1))
    rw [show g + 1 + (n - (g + 1)) = n by omega] at hB
    rcases hB with ⟨h1, h2⟩ | ⟨h1, w, r, h2, h3, h4⟩
    · rw [h2]
      show ¬ nI 4294967295 ≤ nI g ↔ _
      have := mt_neg4 g (by omega)
      constructor
      · intro z; exact absurd this z
      · rintro ⟨_, z⟩; omega
    · rw [h2]
      show ¬ nI r ≤ nI g ↔ _
      rw [nI_leI (by omega) (by omega)]
      constructor
      · intro _; exact ⟨he, by omega⟩
      · intro _; omega
  · obtain ⟨w, h1, h2, h3⟩ := ms_o_A (σ := σ) (c := c) (d := d) (g := g) g (Nat.le_refl g)
    cases w with
    | none => exact absurd (h2.mp rfl) he
    | some q =>
      have hq := h3 q rfl
      rw [ms_o_le (ms_o_2 h1 hp (by omega)) (by omega)]
      show ¬ nI q ≤ nI g ↔ _
      rw [nI_leI (by omega) (by omega)]
      constructor
      · intro z; omega
      · rintro ⟨z, _⟩; exact absurd z he
theorem ms_cA {c d T : Nat} : ∀ m, mt_sm (fun g => if ms_pr σ c d g ∧ ms_kk σ c d g % 2 = 0 ∧ ms_kk σ c d g + 1 < T then 1 else 0) m = (min (ms_kk σ c d m) (T - 1) + 1) / 2
  | 0 => by
    show 0 = (min 0 (T - 1) + 1) / 2
    omega
  | m + 1 => by
    have ih := ms_cA (c := c) (d := d) (T := T) m
    have hk := ms_kk_s (σ := σ) c d m
    show mt_sm (fun g => if ms_pr σ c d g ∧ ms_kk σ c d g % 2 = 0 ∧ ms_kk σ c d g + 1 < T then 1 else 0) m + (if ms_pr σ c d m ∧ ms_kk σ c d m % 2 = 0 ∧ ms_kk σ c d m + 1 < T then 1 else 0) = _
    rw [ih, hk]
    by_cases p : ms_pr σ c d m
    · rw [if_pos p]
      by_cases q : ms_kk σ c d m % 2 = 0 ∧ ms_kk σ c d m + 1 < T
      · rw [if_pos ⟨p, q⟩]
        omega
      · rw [if_neg (fun z => q z.2)]
        omega
    · rw [if_neg p, if_neg (fun z => p z.1)]
      rfl
theorem ms_cA_n {c d n : Nat} : mt_sm (fun g => if ms_pr σ c d g ∧ ms_kk σ c d g % 2 = 0 ∧ ms_kk σ c d g + 1 < ms_kk σ c d n then 1 else 0) n = ms_kk σ c d n / 2 := by
  rw [ms_cA]
  omega
theorem mt_fub (f : Nat → Nat → Nat) (m : Nat) : ∀ n, mt_sm (fun d => mt_sm (f d) n) m = mt_sm (fun g => mt_sm (fun d => f d g) m) n
  | 0 => mt_sm_z (fun _ _ => rfl)
  | n + 1 => by
    show mt_sm (fun d => mt_sm (f d) n + f d n) m = mt_sm (fun g => mt_sm (fun d => f d g) m) n + mt_sm (fun d => f d n) m
    rw [mt_sm_a, mt_fub f m n]
/-- a sum of which one member alone is not 0 -/
theorem mt_sm_o {f : Nat → Nat} {n g : Nat} (hg : g < n) (h : ∀ q, q < n → q ≠ g → f q = 0) : mt_sm f n = f g := by
  rw [mt_sm_rm hg, mt_sm_z (fun q hq => ?_)]
  · rfl
  · by_cases hne : q = g
    · rw [if_pos hne]
    · rw [if_neg hne]
      exact h q hq hne
def ms_pairs (σ : Nat → Nat) (c : Nat) : Nat := mt_sm (fun d => ms_kk σ c d (σ 0) / 2) 8
theorem ms_formed (hok : mt_k σ) {c : Nat} : mt_sm (fun g => if ms_pr σ c (σ (4 + 6 * g + 2)) g ∧ ms_kk σ c (σ (4 + 6 * g + 2)) g % 2 = 0 ∧ ms_kk σ c (σ (4 + 6 * g + 2)) g + 1 < ms_kk σ c (σ (4 + 6 * g + 2)) (σ 0) then 1 else 0) (σ 0) = ms_pairs σ c := by
  unfold ms_pairs
  have h1 : ∀ d, d < 8 → ms_kk σ c d (σ 0) / 2 = mt_sm (fun g => if ms_pr σ c d g ∧ ms_kk σ c d g % 2 = 0 ∧ ms_kk σ c d g + 1 < ms_kk σ c d (σ 0) then 1 else 0) (σ 0) := fun d _ => ms_cA_n.symm
  rw [mt_sm_c h1, mt_fub (fun d g => if ms_pr σ c d g ∧ ms_kk σ c d g % 2 = 0 ∧ ms_kk σ c d g + 1 < ms_kk σ c d (σ 0) then 1 else 0)]
  refine mt_sm_c (fun g hg => ?_)
  rw [mt_sm_o (hok.2 g hg).2.2.1 (fun q _ hne => if_neg (fun z => hne z.1.2.2.2.symm))]
theorem mc_formed (hC : mt_C μ j σ) (hok : mt_k σ) {c : Nat} (hc : c < 4) : f_X6_formed μ j (nI c) = some (nI (ms_pairs σ c)) := by
  have h16 := hok.1
  have cn := hC.1
  rw [← ms_formed hok]
  unfold f_X6_formed
  refine mt_det (fun n (a : Int32) i => f_X6_formed_L4 μ j n (nI c) a i) (fun i => nI (mt_sm (fun g => if ms_pr σ c (σ (4 + 6 * g + 2)) g ∧ ms_kk σ c (σ (4 + 6 * g + 2)) g % 2 = 0 ∧ ms_kk σ c (σ (4 + 6 * g + 2)) g + 1 < ms_kk σ c (σ (4 + 6 * g + 2)) (σ 0) then 1 else 0) i)) (N := σ 0) ?_ ?_ (n := 1000) (by omega)
  · intro n
    simp (discharger := omega) only [f_X6_formed_L4, nI_add, mt_mul, nI_clamp, nI_leI, nI_ltI, nI_eq, mt_in_t, mt_b1, mt_b2, mt_b3, mt_b4, mt_l, mt_g, ↓reduceIte, Nat.reduceEqDiff, Nat.reduceLeDiff, ml_0, ml_1, ml_2, ml_3, ml_4, ml_5, ml_6, ml_7, ml_8, ml_9, ml_10, ml_11, ml_12, ml_13, ml_14, ml_16, ml_31, ml_32, ml_40, ml_42, ml_48, ml_50, ml_57, ml_59, ml_60, ml_63, ml_98, ml_100, ml_103, ml_104, ml_105, ml_106, ml_107, ml_108, ml_109, ml_110, ml_111, ml_112, ml_113, ml_114, ml_115, ml_120, ml_127, ml_176, ml_180, ml_200, ml_254, ml_255, ml_256, ml_300, ml_728, ml_832, ml_65536, cn, Nat.le_refl]
  · intro n i hi
    have i1 : μ j 2 i = nI (σ (4 + 6 * i + 1)) := mt_C_g hC (w := 1) (by decide) hi
    have e := mc_isInBagOf hC hok hi hc
    have e2 := mc_otherSock hC hok hi
    have b1 := (hok.2 i hi).2.1
    have hi' : ¬ σ 0 ≤ i := by omega
    generalize hF : (fun g => if ms_pr σ c (σ (4 + 6 * g + 2)) g ∧ ms_kk σ c (σ (4 + 6 * g + 2)) g % 2 = 0 ∧ ms_kk σ c (σ (4 + 6 * g + 2)) g + 1 < ms_kk σ c (σ (4 + 6 * g + 2)) (σ 0) then 1 else 0) = F
    have hFi : F i = if ms_pr σ c (σ (4 + 6 * i + 2)) i ∧ ms_kk σ c (σ (4 + 6 * i + 2)) i % 2 = 0 ∧ ms_kk σ c (σ (4 + 6 * i + 2)) i + 1 < ms_kk σ c (σ (4 + 6 * i + 2)) (σ 0) then 1 else 0 := by rw [← hF]
    by_cases p1 : σ (4 + 6 * i + 1) = 1
    · by_cases p2 : σ (4 + 6 * i + 4) = 0 ∧ σ (4 + 6 * i + 0) = c
      · rw [if_pos p2] at e
        have hp : ms_pr σ c (σ (4 + 6 * i + 2)) i := ⟨p1, p2.1, p2.2, rfl⟩
        have hgt := ms_o_gt hp hi h16
        rw [p2.2] at e2
        by_cases q : ms_en (ms_o σ c (σ (4 + 6 * i + 2)) i (σ 0)).2 ≤ nI i
        · have z : ¬ (ms_kk σ c (σ (4 + 6 * i + 2)) i % 2 = 0 ∧ ms_kk σ c (σ (4 + 6 * i + 2)) i + 1 < ms_kk σ c (σ (4 + 6 * i + 2)) (σ 0)) := fun y => hgt.mpr y q
          rw [if_neg (fun y => z y.2)] at hFi
          simp (discharger := omega) only [f_X6_formed_L4, nI_add, mt_mul, nI_clamp, nI_leI, nI_ltI, nI_eq, mt_in_t, mt_b1, mt_b2, mt_b3, mt_b4, mt_l, mt_g, ↓reduceIte, Nat.reduceEqDiff, Nat.reduceLeDiff, ml_0, ml_1, ml_2, ml_3, ml_4, ml_5, ml_6, ml_7, ml_8, ml_9, ml_10, ml_11, ml_12, ml_13, ml_14, ml_16, ml_31, ml_32, ml_40, ml_42, ml_48, ml_50, ml_57, ml_59, ml_60, ml_63, ml_98, ml_100, ml_103, ml_104, ml_105, ml_106, ml_107, ml_108, ml_109, ml_110, ml_111, ml_112, ml_113, ml_114, ml_115, ml_120, ml_127, ml_176, ml_180, ml_200, ml_254, ml_255, ml_256, ml_300, ml_728, ml_832, ml_65536, cn, hi', i1, p1, e, e2, q, mt_sm, hFi, Nat.add_zero]
        · rw [if_pos ⟨hp, hgt.mp q⟩] at hFi
          simp (discharger := omega) only [f_X6_formed_L4, nI_add, mt_mul, nI_clamp, nI_leI, nI_ltI, nI_eq, mt_in_t, mt_b1, mt_b2, mt_b3, mt_b4, mt_l, mt_g, ↓reduceIte, Nat.reduceEqDiff, Nat.reduceLeDiff, ml_0, ml_1, ml_2, ml_3, ml_4, ml_5, ml_6, ml_7, ml_8, ml_9, ml_10, ml_11, ml_12, ml_13, ml_14, ml_16, ml_31, ml_32, ml_40, ml_42, ml_48, ml_50, ml_57, ml_59, ml_60, ml_63, ml_98, ml_100, ml_103, ml_104, ml_105, ml_106, ml_107, ml_108, ml_109, ml_110, ml_111, ml_112, ml_113, ml_114, ml_115, ml_120, ml_127, ml_176, ml_180, ml_200, ml_254, ml_255, ml_256, ml_300, ml_728, ml_832, ml_65536, cn, hi', i1, p1, e, e2, q, mt_sm, hFi]
      · rw [if_neg p2] at e
        rw [if_neg (fun y => p2 ⟨y.1.2.1, y.1.2.2.1⟩)] at hFi
        simp (discharger := omega) only [f_X6_formed_L4, nI_add, mt_mul, nI_clamp, nI_leI, nI_ltI, nI_eq, mt_in_t, mt_b1, mt_b2, mt_b3, mt_b4, mt_l, mt_g, ↓reduceIte, Nat.reduceEqDiff, Nat.reduceLeDiff, ml_0, ml_1, ml_2, ml_3, ml_4, ml_5, ml_6, ml_7, ml_8, ml_9, ml_10, ml_11, ml_12, ml_13, ml_14, ml_16, ml_31, ml_32, ml_40, ml_42, ml_48, ml_50, ml_57, ml_59, ml_60, ml_63, ml_98, ml_100, ml_103, ml_104, ml_105, ml_106, ml_107, ml_108, ml_109, ml_110, ml_111, ml_112, ml_113, ml_114, ml_115, ml_120, ml_127, ml_176, ml_180, ml_200, ml_254, ml_255, ml_256, ml_300, ml_728, ml_832, ml_65536, cn, hi', i1, p1, e, mt_sm, hFi, Nat.add_zero]
    · have p1' : σ (4 + 6 * i + 1) = 0 := by omega
      rw [if_neg (fun y => p1 y.1.1)] at hFi
      simp (discharger := omega) only [f_X6_formed_L4, nI_add, mt_mul, nI_clamp, nI_leI, nI_ltI, nI_eq, mt_in_t, mt_b1, mt_b2, mt_b3, mt_b4, mt_l, mt_g, ↓reduceIte, Nat.reduceEqDiff, Nat.reduceLeDiff, ml_0, ml_1, ml_2, ml_3, ml_4, ml_5, ml_6, ml_7, ml_8, ml_9, ml_10, ml_11, ml_12, ml_13, ml_14, ml_16, ml_31, ml_32, ml_40, ml_42, ml_48, ml_50, ml_57, ml_59, ml_60, ml_63, ml_98, ml_100, ml_103, ml_104, ml_105, ml_106, ml_107, ml_108, ml_109, ml_110, ml_111, ml_112, ml_113, ml_114, ml_115, ml_120, ml_127, ml_176, ml_180, ml_200, ml_254, ml_255, ml_256, ml_300, ml_728, ml_832, ml_65536, cn, hi', i1, p1', mt_sm, hFi, Nat.add_zero]
theorem ms_kk_le (c d : Nat) : ∀ i, ms_kk σ c d i ≤ i
  | 0 => Nat.le_refl _
  | i + 1 => by
    have h1 := ms_kk_le c d i
    have h2 := ms_kk_s (σ := σ) c d i
    split at h2 <;> omega
theorem mr_pairs (hM : mt_M μ 19 0 σ) (hok : mt_k σ) {c : Nat} (hc : c < 4) : f_X10_pairCount_L29 1000 μ (nI c) (nI 0) (nI 0) = some (μ, nI (ms_pairs σ c)) := by
  have h16 := hok.1
  have cn := mt_at hM (i := 0) (by decide)
  refine mt_det (fun n (a : Int32) i => f_X10_pairCount_L29 n μ (nI c) a i) (fun i => nI (mt_sm (fun d => ms_kk σ c d (σ 0) / 2) i)) (N := 8) ?_ ?_ (n := 1000) (by omega)
  · intro n
    simp (discharger := omega) only [f_X10_pairCount_L29, nI_add, mt_mul, nI_clamp, nI_leI, nI_ltI, nI_eq, mt_in_t, mt_b1, mt_b2, mt_b3, mt_b4, mt_l, mt_g, ↓reduceIte, Nat.reduceEqDiff, Nat.reduceLeDiff, ml_0, ml_1, ml_2, ml_3, ml_4, ml_5, ml_6, ml_7, ml_8, ml_9, ml_10, ml_11, ml_12, ml_13, ml_14, ml_16, ml_31, ml_32, ml_40, ml_42, ml_48, ml_50, ml_57, ml_59, ml_60, ml_63, ml_98, ml_100, ml_103, ml_104, ml_105, ml_106, ml_107, ml_108, ml_109, ml_110, ml_111, ml_112, ml_113, ml_114, ml_115, ml_120, ml_127, ml_176, ml_180, ml_200, ml_254, ml_255, ml_256, ml_300, ml_728, ml_832, ml_65536, Nat.le_refl]
    rfl
  · intro n d hd
    have hd' : ¬ 8 ≤ d := by omega
    have hk := ms_kk_le (σ := σ) c d (σ 0)
    have key : f_X10_pairCount_L41 (f_X10_pairCount_L29 n) 1000 μ (nI c) (nI (mt_sm (fun d => ms_kk σ c d (σ 0) / 2) d)) (nI d) (nI 0) (nI 0) = f_X10_pairCount_L29 n μ (nI c) (nI (mt_sm (fun d => ms_kk σ c d (σ 0) / 2) (d + 1))) (nI (d + 1)) := by
      refine mt_det (fun n' (a : Int32) i => f_X10_pairCount_L41 (f_X10_pairCount_L29 n) n' μ (nI c) (nI (mt_sm (fun d => ms_kk σ c d (σ 0) / 2) d)) (nI d) a i) (fun i => nI (ms_kk σ c d i)) (N := σ 0) ?_ ?_ (n := 1000) (by omega)
      · intro n'
        simp (discharger := omega) only [f_X10_pairCount_L41, nI_add, mt_mul, nI_clamp, nI_leI, nI_ltI, nI_eq, mt_in_t, mt_b1, mt_b2, mt_b3, mt_b4, mt_l, mt_g, ↓reduceIte, Nat.reduceEqDiff, Nat.reduceLeDiff, ml_0, ml_1, ml_2, ml_3, ml_4, ml_5, ml_6, ml_7, ml_8, ml_9, ml_10, ml_11, ml_12, ml_13, ml_14, ml_16, ml_31, ml_32, ml_40, ml_42, ml_48, ml_50, ml_57, ml_59, ml_60, ml_63, ml_98, ml_100, ml_103, ml_104, ml_105, ml_106, ml_107, ml_108, ml_109, ml_110, ml_111, ml_112, ml_113, ml_114, ml_115, ml_120, ml_127, ml_176, ml_180, ml_200, ml_254, ml_255, ml_256, ml_300, ml_728, ml_832, ml_65536, cn, mt_div2, Nat.le_refl, mt_sm]
      · intro n' i hi
        have e := mr_isSockIn hM hok hi hc hd
        have hi' : ¬ σ 0 ≤ i := by omega
        have hks := ms_kk_s (σ := σ) c d i
        by_cases p : ms_pr σ c d i
        · rw [if_pos p] at e hks
          simp (discharger := omega) only [f_X10_pairCount_L41, nI_add, mt_mul, nI_clamp, nI_leI, nI_ltI, nI_eq, mt_in_t, mt_b1, mt_b2, mt_b3, mt_b4, mt_l, mt_g, ↓reduceIte, Nat.reduceEqDiff, Nat.reduceLeDiff, ml_0, ml_1, ml_2, ml_3, ml_4, ml_5, ml_6, ml_7, ml_8, ml_9, ml_10, ml_11, ml_12, ml_13, ml_14, ml_16, ml_31, ml_32, ml_40, ml_42, ml_48, ml_50, ml_57, ml_59, ml_60, ml_63, ml_98, ml_100, ml_103, ml_104, ml_105, ml_106, ml_107, ml_108, ml_109, ml_110, ml_111, ml_112, ml_113, ml_114, ml_115, ml_120, ml_127, ml_176, ml_180, ml_200, ml_254, ml_255, ml_256, ml_300, ml_728, ml_832, ml_65536, cn, hi', e, hks]
        · rw [if_neg p] at e hks
          simp (discharger := omega) only [f_X10_pairCount_L41, nI_add, mt_mul, nI_clamp, nI_leI, nI_ltI, nI_eq, mt_in_t, mt_b1, mt_b2, mt_b3, mt_b4, mt_l, mt_g, ↓reduceIte, Nat.reduceEqDiff, Nat.reduceLeDiff, ml_0, ml_1, ml_2, ml_3, ml_4, ml_5, ml_6, ml_7, ml_8, ml_9, ml_10, ml_11, ml_12, ml_13, ml_14, ml_16, ml_31, ml_32, ml_40, ml_42, ml_48, ml_50, ml_57, ml_59, ml_60, ml_63, ml_98, ml_100, ml_103, ml_104, ml_105, ml_106, ml_107, ml_108, ml_109, ml_110, ml_111, ml_112, ml_113, ml_114, ml_115, ml_120, ml_127, ml_176, ml_180, ml_200, ml_254, ml_255, ml_256, ml_300, ml_728, ml_832, ml_65536, cn, hi', e, hks]
    simp (discharger := omega) only [f_X10_pairCount_L29, nI_add, mt_mul, nI_clamp, nI_leI, nI_ltI, nI_eq, mt_in_t, mt_b1, mt_b2, mt_b3, mt_b4, mt_l, mt_g, ↓reduceIte, Nat.reduceEqDiff, Nat.reduceLeDiff, ml_0, ml_1, ml_2, ml_3, ml_4, ml_5, ml_6, ml_7, ml_8, ml_9, ml_10, ml_11, ml_12, ml_13, ml_14, ml_16, ml_31, ml_32, ml_40, ml_42, ml_48, ml_50, ml_57, ml_59, ml_60, ml_63, ml_98, ml_100, ml_103, ml_104, ml_105, ml_106, ml_107, ml_108, ml_109, ml_110, ml_111, ml_112, ml_113, ml_114, ml_115, ml_120, ml_127, ml_176, ml_180, ml_200, ml_254, ml_255, ml_256, ml_300, ml_728, ml_832, ml_65536, hd', key]
/-! and by parity -/
theorem mt_pc8 : ∀ x, x < 256 → ms_pc x = mt_sm (fun c => if x.testBit c = true then 1 else 0) 8 := by decide +kernel
def ms_tot (σ : Nat → Nat) (c i : Nat) : Nat := mt_sm (fun g => if σ (4 + 6 * g + 1) = 1 ∧ σ (4 + 6 * g + 4) = 0 ∧ σ (4 + 6 * g + 0) = c then 1 else 0) i
theorem ms_tot_e (hok : mt_k σ) (c : Nat) : ms_tot σ c (σ 0) = mt_sm (fun d => ms_kk σ c d (σ 0)) 8 := by
  unfold ms_tot ms_kk
  rw [mt_fub (fun d g => if ms_pr σ c d g then 1 else 0)]
  refine mt_sm_c (fun g hg => ?_)
  rw [mt_sm_o (hok.2 g hg).2.2.1 (fun q _ hne => if_neg (fun z => hne z.2.2.2.symm))]
  by_cases p : σ (4 + 6 * g + 1) = 1 ∧ σ (4 + 6 * g + 4) = 0 ∧ σ (4 + 6 * g + 0) = c
  · rw [if_pos p, if_pos ⟨p.1, p.2.1, p.2.2, rfl⟩]
  · rw [if_neg p, if_neg (fun z => p ⟨z.1, z.2.1, z.2.2.1⟩)]
theorem mt_sm_h (f : Nat → Nat) : ∀ n, mt_sm f n = 2 * mt_sm (fun d => f d / 2) n + mt_sm (fun d => f d % 2) n
  | 0 => rfl
  | n + 1 => by
    have ih := mt_sm_h f n
    show mt_sm f n + f n = 2 * (mt_sm (fun d => f d / 2) n + f n / 2) + (mt_sm (fun d => f d % 2) n + f n % 2)
    omega
theorem mc_byParity (hC : mt_C μ j σ) (hok : mt_k σ) {c : Nat} (hc : c < 4) : f_X6_byParity μ j (nI c) = some (nI (ms_pairs σ c)) := by
  have h16 := hok.1
  have cn := hC.1
  unfold f_X6_byParity
  refine mt_while (L := fun n (a : Int32 × Nat) i => f_X6_byParity_L7 μ j n (nI c) a.1 (nI a.2) i) (I := fun i a => a.1 = nI (ms_tot σ c i) ∧ a.2 < 256 ∧ ∀ d, d < 8 → (a.2.testBit d = true ↔ ms_kk σ c d i % 2 = 1)) (P := fun r => r = some (nI (ms_pairs σ c))) (N := σ 0) ?_ ?_ (σ 0) 1000 (nI 0, 0) 0 (by omega) (by omega) ⟨rfl, by decide, fun d _ => by
    show Nat.testBit 0 d = true ↔ 0 % 2 = 1
    rw [Nat.zero_testBit]
    exact ⟨fun z => (by cases z), fun z => (by cases z)⟩⟩
  · rintro n ⟨a, x⟩ h
    obtain ⟨h1, h2, h3⟩ : a = nI (ms_tot σ c (σ 0)) ∧ x < 256 ∧ ∀ d, d < 8 → (x.testBit d = true ↔ ms_kk σ c d (σ 0) % 2 = 1) := h
    have ep := mt_bc (μ := μ) h2
    have e1 : ms_pc x = mt_sm (fun d => ms_kk σ c d (σ 0) % 2) 8 := by
      rw [mt_pc8 x h2]
      refine mt_sm_c (fun d hd => ?_)
      by_cases q : x.testBit d = true
      · rw [if_pos q, (h3 d hd).mp q]
      · rw [if_neg q]
        have : ¬ ms_kk σ c d (σ 0) % 2 = 1 := fun z => q ((h3 d hd).mpr z)
        omega
    have e2 := mt_sm_h (fun d => ms_kk σ c d (σ 0)) 8
    have e3 := ms_tot_e hok c
    have e4 := mt_sm_le (f := fun d => ms_kk σ c d (σ 0)) (c := 16) (n := 8) (fun d _ => Nat.le_trans (ms_kk_le c d _) h16)
    have e5 : ms_pairs σ c = mt_sm (fun d => ms_kk σ c d (σ 0) / 2) 8 := rfl
    have e6 : (ms_tot σ c (σ 0) - ms_pc x) / 2 = ms_pairs σ c := by omega
    have e7 : ms_pc x ≤ ms_tot σ c (σ 0) := by omega
    have e8 : nI (ms_tot σ c (σ 0)) - nI (ms_pc x) = nI (ms_tot σ c (σ 0) - ms_pc x) := mt_sub e7
    have e9 : nI (ms_tot σ c (σ 0) - ms_pc x) / nI 2 = nI (ms_pairs σ c) := by rw [mt_div2 (by omega), e6]
    simp (discharger := omega) only [f_X6_byParity_L7, nI_add, mt_mul, nI_clamp, nI_leI, nI_ltI, nI_eq, mt_in_t, mt_b1, mt_b2, mt_b3, mt_b4, mt_l, mt_g, ↓reduceIte, Nat.reduceEqDiff, Nat.reduceLeDiff, ml_0, ml_1, ml_2, ml_3, ml_4, ml_5, ml_6, ml_7, ml_8, ml_9, ml_10, ml_11, ml_12, ml_13, ml_14, ml_16, ml_31, ml_32, ml_40, ml_42, ml_48, ml_50, ml_57, ml_59, ml_60, ml_63, ml_98, ml_100, ml_103, ml_104, ml_105, ml_106, ml_107, ml_108, ml_109, ml_110, ml_111, ml_112, ml_113, ml_114, ml_115, ml_120, ml_127, ml_176, ml_180, ml_200, ml_254, ml_255, ml_256, ml_300, ml_728, ml_832, ml_65536, cn, h1, ep, e8, e9, Nat.le_refl]
  · rintro n ⟨a, x⟩ i hi h
    obtain ⟨h1, h2, h3⟩ : a = nI (ms_tot σ c i) ∧ x < 256 ∧ ∀ d, d < 8 → (x.testBit d = true ↔ ms_kk σ c d i % 2 = 1) := h
    have i1 : μ j 2 i = nI (σ (4 + 6 * i + 1)) := mt_C_g hC (w := 1) (by decide) hi
    have i2 : μ j 3 i = nI (σ (4 + 6 * i + 2)) := mt_C_g hC (w := 2) (by decide) hi
    have e := mc_isInBagOf hC hok hi hc
    have b1 := (hok.2 i hi).2.1
    have b2 := (hok.2 i hi).2.2.1
    have hi' : ¬ σ 0 ≤ i := by omega
    have ht : ms_tot σ c (i + 1) = ms_tot σ c i + (if σ (4 + 6 * i + 1) = 1 ∧ σ (4 + 6 * i + 4) = 0 ∧ σ (4 + 6 * i + 0) = c then 1 else 0) := rfl
    left
    by_cases p : σ (4 + 6 * i + 1) = 1 ∧ σ (4 + 6 * i + 4) = 0 ∧ σ (4 + 6 * i + 0) = c
    · rw [if_pos p] at ht
      rw [if_pos p.2] at e
      have p1 := p.1
      refine ⟨(nI (ms_tot σ c (i + 1)), x ^^^ 2 ^ σ (4 + 6 * i + 2)), ⟨rfl, Nat.xor_lt_two_pow (n := 8) h2 (Nat.pow_lt_pow_right (by decide) b2), fun d hd => ?_⟩, ?_⟩
      · have hks := ms_kk_s (σ := σ) c d i
        have q1 := h3 d hd
        show (x ^^^ 2 ^ σ (4 + 6 * i + 2)).testBit d = true ↔ ms_kk σ c d (i + 1) % 2 = 1
        rw [Nat.testBit_xor, Nat.testBit_two_pow]
        by_cases hcc : σ (4 + 6 * i + 2) = d
        · rw [if_pos ⟨p.1, p.2.1, p.2.2, hcc⟩] at hks
          cases hx : x.testBit d
          · have : ¬ ms_kk σ c d i % 2 = 1 := fun z => by rw [q1.mpr z] at hx; cases hx
            simp only [hcc, decide_true, Bool.false_xor, true_iff]
            omega
          · have := q1.mp hx
            simp only [hcc, decide_true, Bool.xor_self, Bool.false_eq_true, false_iff]
            omega
        · rw [if_neg (fun z => hcc z.2.2.2)] at hks
          simp only [hcc, decide_false, Bool.xor_false]
          rw [q1, hks]
          rfl
      · simp (discharger := omega) only [f_X6_byParity_L7, nI_add, mt_mul, nI_clamp, nI_leI, nI_ltI, nI_eq, mt_in_t, mt_b1, mt_b2, mt_b3, mt_b4, mt_l, mt_g, ↓reduceIte, Nat.reduceEqDiff, Nat.reduceLeDiff, ml_0, ml_1, ml_2, ml_3, ml_4, ml_5, ml_6, ml_7, ml_8, ml_9, ml_10, ml_11, ml_12, ml_13, ml_14, ml_16, ml_31, ml_32, ml_40, ml_42, ml_48, ml_50, ml_57, ml_59, ml_60, ml_63, ml_98, ml_100, ml_103, ml_104, ml_105, ml_106, ml_107, ml_108, ml_109, ml_110, ml_111, ml_112, ml_113, ml_114, ml_115, ml_120, ml_127, ml_176, ml_180, ml_200, ml_254, ml_255, ml_256, ml_300, ml_728, ml_832, ml_65536, cn, hi', i1, p1, e, i2, h1, ht, mt_shl]
        rw [mt_xor]
    · rw [if_neg p] at ht
      refine ⟨(nI (ms_tot σ c (i + 1)), x), ⟨rfl, h2, fun d hd => ?_⟩, ?_⟩
      · have hks := ms_kk_s (σ := σ) c d i
        rw [if_neg (fun z => p ⟨z.1, z.2.1, z.2.2.1⟩)] at hks
        have q1 := h3 d hd
        show x.testBit d = true ↔ ms_kk σ c d (i + 1) % 2 = 1
        rw [q1, hks]
        rfl
      · by_cases p1 : σ (4 + 6 * i + 1) = 1
        · rw [if_neg (fun z => p ⟨p1, z⟩)] at e
          simp (discharger := omega) only [f_X6_byParity_L7, nI_add, mt_mul, nI_clamp, nI_leI, nI_ltI, nI_eq, mt_in_t, mt_b1, mt_b2, mt_b3, mt_b4, mt_l, mt_g, ↓reduceIte, Nat.reduceEqDiff, Nat.reduceLeDiff, ml_0, ml_1, ml_2, ml_3, ml_4, ml_5, ml_6, ml_7, ml_8, ml_9, ml_10, ml_11, ml_12, ml_13, ml_14, ml_16, ml_31, ml_32, ml_40, ml_42, ml_48, ml_50, ml_57, ml_59, ml_60, ml_63, ml_98, ml_100, ml_103, ml_104, ml_105, ml_106, ml_107, ml_108, ml_109, ml_110, ml_111, ml_112, ml_113, ml_114, ml_115, ml_120, ml_127, ml_176, ml_180, ml_200, ml_254, ml_255, ml_256, ml_300, ml_728, ml_832, ml_65536, cn, hi', i1, p1, e, h1, ht]
          rfl
        · have p1' : σ (4 + 6 * i + 1) = 0 := by omega
          simp (discharger := omega) only [f_X6_byParity_L7, nI_add, mt_mul, nI_clamp, nI_leI, nI_ltI, nI_eq, mt_in_t, mt_b1, mt_b2, mt_b3, mt_b4, mt_l, mt_g, ↓reduceIte, Nat.reduceEqDiff, Nat.reduceLeDiff, ml_0, ml_1, ml_2, ml_3, ml_4, ml_5, ml_6, ml_7, ml_8, ml_9, ml_10, ml_11, ml_12, ml_13, ml_14, ml_16, ml_31, ml_32, ml_40, ml_42, ml_48, ml_50, ml_57, ml_59, ml_60, ml_63, ml_98, ml_100, ml_103, ml_104, ml_105, ml_106, ml_107, ml_108, ml_109, ml_110, ml_111, ml_112, ml_113, ml_114, ml_115, ml_120, ml_127, ml_176, ml_180, ml_200, ml_254, ml_255, ml_256, ml_300, ml_728, ml_832, ml_65536, cn, hi', i1, p1', h1, ht]
          rfl
end MP
