/-! the mathematics, 12: both sides' whole state, and what keeps it -/
def mt_HC (μ : fw_M) (k : Nat) (h : Nat → Nat → Nat) : Prop := ∃ nw, nw ≤ 8 ∧ μ 0 11 1 = nI nw ∧ μ 0 11 2 = nI k ∧ ∀ i, i < k → mt_C μ (3 + (nw + 10 + i - k) % 9) (h i)
def mt_HM (μ : fw_M) (k : Nat) (h : Nat → Nat → Nat) : Prop := μ 0 18 5 = nI k ∧ ∀ i, i < k → mt_M μ 22 (104 * i) (h i)
def mt_H (B : Nat) (μ : fw_M) : Prop := ∃ k h, k ≤ 8 ∧ mt_HC μ k h ∧ mt_HM μ k h ∧ ∀ i, i < k → mt_ok B (h i)
def mt_V (B : Nat) (μ : fw_M) : Prop := (μ 0 10 3 = nI 0 ∧ μ 0 18 6 = nI 0) ∨ (μ 0 10 3 = nI 1 ∧ μ 0 18 6 = nI 1 ∧ ∃ σ, mt_C μ 2 σ ∧ mt_M μ 21 0 σ ∧ mt_ok B σ)
def mt_T (μ : fw_M) : Prop := ∃ n, n ≤ 60 ∧ μ 0 13 1 = nI n ∧ μ 0 18 11 = nI n ∧ ∀ i, i < n → ∃ c, c < 65536 ∧ μ 0 14 i = nI c ∧ μ 0 23 i = nI c
def mt_X1 (μ : fw_M) (a b : Nat) : Prop := ∃ v, (v = 4294967295 ∨ v < 1000) ∧ μ 0 10 a = nI v ∧ μ 0 18 b = nI v
def mt_O (μ : fw_M) : Prop := ∃ n, n ≤ 176 ∧ μ 0 16 1 = nI n ∧ μ 0 18 12 = nI n ∧ ∀ i, i < n → ∃ c, c < 65536 ∧ μ 0 17 i = nI c ∧ μ 0 25 i = nI c
def mt_S (B : Nat) (σ : Nat → Nat) (μ : fw_M) : Prop := mt_C μ 0 σ ∧ mt_M μ 19 0 σ ∧ mt_ok B σ
def mt_R (B : Nat) (μ : fw_M) : Prop := (∃ σ, mt_S B σ μ) ∧ mt_H B μ ∧ mt_V B μ ∧ mt_T μ ∧ mt_X1 μ 7 13 ∧ mt_X1 μ 8 14 ∧ mt_O μ
/-- a memory that says the same -/
def mt_sm1 (μ μ' : fw_M) : Prop := (∀ j f, f < 9 → j ≠ 1 → μ' j f = μ j f) ∧ (∀ f, f = 10 ∨ f = 11 ∨ f = 14 ∨ f = 16 ∨ f = 17 ∨ f = 19 ∨ f = 21 ∨ f = 22 ∨ f = 23 ∨ f = 25 → μ' 0 f = μ 0 f) ∧ μ' 0 13 1 = μ 0 13 1 ∧ ∀ i, i = 5 ∨ i = 6 ∨ i = 11 ∨ i = 12 ∨ i = 13 ∨ i = 14 → μ' 0 18 i = μ 0 18 i
theorem mt_sm1_t {μ μ' μ'' : fw_M} (h : mt_sm1 μ μ') (h' : mt_sm1 μ' μ'') : mt_sm1 μ μ'' := ⟨fun j f q r => (h'.1 j f q r).trans (h.1 j f q r), fun f q => (h'.2.1 f q).trans (h.2.1 f q), h'.2.2.1.trans h.2.2.1, fun i q => (h'.2.2.2 i q).trans (h.2.2.2 i q)⟩
theorem mt_sm1_u {μ : fw_M} {j f i : Nat} {v : Int32} (h : (f < 9 ∧ j = 1) ∨ (9 = f ∨ f = 12 ∨ f = 15 ∨ f = 20 ∨ f = 24 ∨ 26 ≤ f) ∨ (f = 13 ∧ i ≠ 1) ∨ (f = 18 ∧ i ≠ 5 ∧ i ≠ 6 ∧ i ≠ 11 ∧ i ≠ 12 ∧ i ≠ 13 ∧ i ≠ 14)) : mt_sm1 μ (fw_u μ j f i v) := by
  refine ⟨fun j' f' q r => fw_u_o (by omega), fun f' q => fw_u_o (by omega), mt_un (by omega), fun i' q => mt_un (by omega)⟩
theorem mt_HC_s {μ μ' : fw_M} {k : Nat} {h : Nat → Nat → Nat} (hH : mt_HC μ k h) (h1 : ∀ j f, f < 9 → 3 ≤ j → μ' j f = μ j f) (h2 : μ' 0 11 = μ 0 11) : mt_HC μ' k h := by
  obtain ⟨nw, a, b, c, d⟩ := hH
  exact ⟨nw, a, by rw [h2]; exact b, by rw [h2]; exact c, fun i hi => mt_C_k (d i hi) (fun f hf => h1 _ f hf (Nat.le_add_right _ _))⟩
theorem mt_HM_s {μ μ' : fw_M} {k : Nat} {h : Nat → Nat → Nat} (hH : mt_HM μ k h) (h1 : μ' 0 18 5 = μ 0 18 5) (h2 : μ' 0 22 = μ 0 22) : mt_HM μ' k h := ⟨by rw [h1]; exact hH.1, fun i hi => mt_M_k (hH.2 i hi) h2⟩
theorem mt_R_s {B : Nat} {μ μ' : fw_M} (hR : mt_R B μ) (h : mt_sm1 μ μ') : mt_R B μ' := by
  obtain ⟨⟨σ, hC, hM, hok⟩, ⟨k, hh, k8, hHC, hHM, hHo⟩, hV, ⟨n, n60, t1, t2, t3⟩, ⟨v, v1, v2, v3⟩, ⟨w, w1, w2, w3⟩, ⟨m, m1, m2, m3, m4⟩⟩ := hR
  obtain ⟨s1, s2, s3, s4⟩ := h
  refine ⟨⟨σ, mt_C_k hC (fun f hf => s1 0 f hf (by decide)), mt_M_k hM (s2 19 (by omega)), hok⟩, ⟨k, hh, k8, mt_HC_s hHC (fun j f hf hj => s1 j f hf (by omega)) (s2 11 (by omega)), mt_HM_s hHM (s4 5 (by omega)) (s2 22 (by omega)), hHo⟩, ?_, ⟨n, n60, by rw [s3]; exact t1, by rw [s4 11 (by omega)]; exact t2, by rw [s2 14 (by omega), s2 23 (by omega)]; exact t3⟩, ⟨v, v1, by rw [s2 10 (by omega)]; exact v2, by rw [s4 13 (by omega)]; exact v3⟩, ⟨w, w1, by rw [s2 10 (by omega)]; exact w2, by rw [s4 14 (by omega)]; exact w3⟩, ⟨m, m1, by rw [s2 16 (by omega)]; exact m2, by rw [s4 12 (by omega)]; exact m3, by rw [s2 17 (by omega), s2 25 (by omega)]; exact m4⟩⟩
  unfold mt_V
  rw [s2 10 (by omega), s4 6 (by omega)]
  rcases hV with hV | ⟨a, b, σ', c, d, e⟩
  · exact Or.inl hV
  · exact Or.inr ⟨a, b, σ', mt_C_k c (fun f hf => s1 2 f hf (by decide)), mt_M_k d (s2 21 (by omega)), e⟩
theorem mt_R_m {B B' : Nat} {μ : fw_M} (hR : mt_R B μ) (hB : B ≤ B') : mt_R B' μ := by
  obtain ⟨⟨σ, hC, hM, hok⟩, ⟨k, hh, k8, hHC, hHM, hHo⟩, hV, rest⟩ := hR
  refine ⟨⟨σ, hC, hM, mt_ok_m hok hB⟩, ⟨k, hh, k8, hHC, hHM, fun i hi => mt_ok_m (hHo i hi) hB⟩, ?_, rest⟩
  rcases hV with hV | ⟨a, b, σ', c, d, e⟩
  · exact Or.inl hV
  · exact Or.inr ⟨a, b, σ', c, d, mt_ok_m e hB⟩
theorem mt_R_t {B t : Nat} {μ : fw_M} (hR : mt_R B μ) : mt_R B (fw_u μ 0 18 0 (nI t)) := mt_R_s hR (mt_sm1_u (by omega))
theorem mt_M_t {μ : fw_M} {f off : Nat} {σ : Nat → Nat} {t : Nat} (h : mt_M μ f off σ) (hf : f ≠ 18) : mt_M (fw_u μ 0 18 0 (nI t)) f off σ := mt_M_k h (fw_u_o (by omega))
/-- one call on both sides: what they answer, and that the state is kept -/
def mt_A {α β : Type} (B : Nat) (rel : α → β → Prop) (bad : Nat → Nat → Prop) (X : Option (fw_M × α × Nat)) (Y : fw_M → Option (fw_M × β)) : Prop := ∃ μ1 r k μ2 r2 t, X = some (μ1, r, k) ∧ Y μ1 = some (μ2, r2) ∧ μ2 0 18 0 = nI t ∧ mt_R B μ2 ∧ ((k = 0 ∧ t = 0 ∧ rel r r2) ∨ bad k t)
def mt_e1 (k t : Nat) : Prop := k = 1 ∧ t = 1
theorem mt_A_ok {α β : Type} {B : Nat} {rel : α → β → Prop} {bad : Nat → Nat → Prop} {X : Option (fw_M × α × Nat)} {Y : fw_M → Option (fw_M × β)} {μ : fw_M} {r : α} {r2 : β} (hR : mt_R B μ) (h1 : X = some (μ, r, 0)) (h2 : Y μ = some (fw_u μ 0 18 0 (nI 0), r2)) (h3 : rel r r2) : mt_A B rel bad X Y := ⟨μ, r, 0, _, r2, 0, h1, h2, mt_uy rfl, mt_R_t hR, Or.inl ⟨rfl, rfl, h3⟩⟩
theorem mt_A_no {α β : Type} {B k t : Nat} {rel : α → β → Prop} {bad : Nat → Nat → Prop} {X : Option (fw_M × α × Nat)} {Y : fw_M → Option (fw_M × β)} {μ : fw_M} {r : α} {r2 : β} (hR : mt_R B μ) (h1 : X = some (μ, r, k)) (h2 : Y μ = some (fw_u μ 0 18 0 (nI t), r2)) (h3 : bad k t) : mt_A B rel bad X Y := ⟨μ, r, k, _, r2, t, h1, h2, mt_uy rfl, mt_R_t hR, Or.inr h3⟩
/-! arguments in and out of range -/
theorem mt_in_lit {μ : fw_M} {x : Int32} {n : Nat} (hn : n < 2 ^ 31) (h : x < 0 ∨ nI n ≤ x) : f_X10_in μ x (nI 0) (nI n - nI 1) = some (nI 0) := by
  unfold f_X10_in
  by_cases h0 : x < nI 0
  · rw [if_pos h0]
    rfl
  · rw [if_neg h0]
    rcases h with h | h
    · exact absurd h h0
    · rw [if_pos (mt_pred hn h)]
      rfl
theorem mt_gar {B : Nat} {σ : Nat → Nat} {μ μ0 : fw_M} (hC : mt_C μ 0 σ) (hM : mt_M μ0 19 0 σ) (hk : mt_k σ) (x : Int32) : (∃ g, g < σ 0 ∧ x = nI g ∧ f_X7_isGarment μ 0 x = some (nI 1) ∧ f_X10_isGarment μ0 x = some (nI 1)) ∨ (f_X7_isGarment μ 0 x = some (nI 0) ∧ f_X10_isGarment μ0 x = some (nI 0)) := by
  have h16 := hk.1
  have cn := hC.1
  have rn := mt_at hM (i := 0) (by decide)
  rcases mt_rng x (n := σ 0) (by omega) with ⟨g, hg, rfl⟩ | h
  · left
    refine ⟨g, hg, rfl, ?_, ?_⟩
    · have h1 : ¬ g < 0 := by omega
      have h2 : ¬ σ 0 ≤ g := by omega
      simp (discharger := omega) only [f_X7_isGarment, nI_add, mt_mul, nI_clamp, nI_leI, nI_ltI, nI_eq, mt_in_t, mt_b1, mt_b2, mt_b3, mt_b4, mt_l, mt_g, ↓reduceIte, Nat.reduceEqDiff, Nat.reduceLeDiff, ml_0, ml_1, ml_2, ml_3, ml_4, ml_5, ml_6, ml_7, ml_8, ml_9, ml_10, ml_11, ml_12, ml_13, ml_14, ml_16, ml_31, ml_32, ml_40, ml_42, ml_48, ml_50, ml_57, ml_59, ml_60, ml_63, ml_98, ml_100, ml_103, ml_104, ml_105, ml_106, ml_107, ml_108, ml_109, ml_110, ml_111, ml_112, ml_113, ml_114, ml_115, ml_120, ml_127, ml_176, ml_180, ml_200, ml_254, ml_255, ml_256, ml_300, ml_728, ml_832, ml_65536, cn, h1, h2]
    · have h1 : ¬ g < 0 := by omega
      have h2 : ¬ σ 0 - 1 < g := by omega
      have h3 : nI (σ 0) - nI 1 = nI (σ 0 - 1) := mt_sub (by omega)
      simp (discharger := omega) only [f_X10_isGarment, f_X10_in, nI_add, mt_mul, nI_clamp, nI_leI, nI_ltI, nI_eq, mt_in_t, mt_b1, mt_b2, mt_b3, mt_b4, mt_l, mt_g, ↓reduceIte, Nat.reduceEqDiff, Nat.reduceLeDiff, ml_0, ml_1, ml_2, ml_3, ml_4, ml_5, ml_6, ml_7, ml_8, ml_9, ml_10, ml_11, ml_12, ml_13, ml_14, ml_16, ml_31, ml_32, ml_40, ml_42, ml_48, ml_50, ml_57, ml_59, ml_60, ml_63, ml_98, ml_100, ml_103, ml_104, ml_105, ml_106, ml_107, ml_108, ml_109, ml_110, ml_111, ml_112, ml_113, ml_114, ml_115, ml_120, ml_127, ml_176, ml_180, ml_200, ml_254, ml_255, ml_256, ml_300, ml_728, ml_832, ml_65536, rn, h1, h2, h3, mt_bo]
  · right
    refine ⟨?_, ?_⟩
    · by_cases h0 : x < nI 0
      · simp (discharger := omega) only [f_X7_isGarment, nI_add, mt_mul, nI_clamp, nI_leI, nI_ltI, nI_eq, mt_in_t, mt_b1, mt_b2, mt_b3, mt_b4, mt_l, mt_g, ↓reduceIte, Nat.reduceEqDiff, Nat.reduceLeDiff, ml_0, ml_1, ml_2, ml_3, ml_4, ml_5, ml_6, ml_7, ml_8, ml_9, ml_10, ml_11, ml_12, ml_13, ml_14, ml_16, ml_31, ml_32, ml_40, ml_42, ml_48, ml_50, ml_57, ml_59, ml_60, ml_63, ml_98, ml_100, ml_103, ml_104, ml_105, ml_106, ml_107, ml_108, ml_109, ml_110, ml_111, ml_112, ml_113, ml_114, ml_115, ml_120, ml_127, ml_176, ml_180, ml_200, ml_254, ml_255, ml_256, ml_300, ml_728, ml_832, ml_65536, h0]
      · rcases h with h | h
        · exact absurd h h0
        · simp (discharger := omega) only [f_X7_isGarment, nI_add, mt_mul, nI_clamp, nI_leI, nI_ltI, nI_eq, mt_in_t, mt_b1, mt_b2, mt_b3, mt_b4, mt_l, mt_g, ↓reduceIte, Nat.reduceEqDiff, Nat.reduceLeDiff, ml_0, ml_1, ml_2, ml_3, ml_4, ml_5, ml_6, ml_7, ml_8, ml_9, ml_10, ml_11, ml_12, ml_13, ml_14, ml_16, ml_31, ml_32, ml_40, ml_42, ml_48, ml_50, ml_57, ml_59, ml_60, ml_63, ml_98, ml_100, ml_103, ml_104, ml_105, ml_106, ml_107, ml_108, ml_109, ml_110, ml_111, ml_112, ml_113, ml_114, ml_115, ml_120, ml_127, ml_176, ml_180, ml_200, ml_254, ml_255, ml_256, ml_300, ml_728, ml_832, ml_65536, cn, h0, h]
    · have e := mt_in_lit (μ := μ0) (x := x) (n := σ 0) (by omega) h
      simp (discharger := omega) only [f_X10_isGarment, nI_add, mt_mul, nI_clamp, nI_leI, nI_ltI, nI_eq, mt_in_t, mt_b1, mt_b2, mt_b3, mt_b4, mt_l, mt_g, ↓reduceIte, Nat.reduceEqDiff, Nat.reduceLeDiff, ml_0, ml_1, ml_2, ml_3, ml_4, ml_5, ml_6, ml_7, ml_8, ml_9, ml_10, ml_11, ml_12, ml_13, ml_14, ml_16, ml_31, ml_32, ml_40, ml_42, ml_48, ml_50, ml_57, ml_59, ml_60, ml_63, ml_98, ml_100, ml_103, ml_104, ml_105, ml_106, ml_107, ml_108, ml_109, ml_110, ml_111, ml_112, ml_113, ml_114, ml_115, ml_120, ml_127, ml_176, ml_180, ml_200, ml_254, ml_255, ml_256, ml_300, ml_728, ml_832, ml_65536, rn, e, mt_bo]
theorem mt_cli (μ μ' : fw_M) (x : Int32) : (∃ c, c < 4 ∧ x = nI c ∧ f_X9_isClient μ x = some (nI 1) ∧ f_X10_isClient μ' x = some (nI 1)) ∨ (f_X9_isClient μ x = some (nI 0) ∧ f_X10_isClient μ' x = some (nI 0)) := by
  rcases mt_rng x (n := 4) (by omega) with ⟨g, hg, rfl⟩ | h
  · left
    refine ⟨g, hg, rfl, ?_, ?_⟩
    · have h1 : ¬ g < 0 := by omega
      have h2 : ¬ 4 ≤ g := by omega
      simp (discharger := omega) only [f_X9_isClient, nI_add, mt_mul, nI_clamp, nI_leI, nI_ltI, nI_eq, mt_in_t, mt_b1, mt_b2, mt_b3, mt_b4, mt_l, mt_g, ↓reduceIte, Nat.reduceEqDiff, Nat.reduceLeDiff, ml_0, ml_1, ml_2, ml_3, ml_4, ml_5, ml_6, ml_7, ml_8, ml_9, ml_10, ml_11, ml_12, ml_13, ml_14, ml_16, ml_31, ml_32, ml_40, ml_42, ml_48, ml_50, ml_57, ml_59, ml_60, ml_63, ml_98, ml_100, ml_103, ml_104, ml_105, ml_106, ml_107, ml_108, ml_109, ml_110, ml_111, ml_112, ml_113, ml_114, ml_115, ml_120, ml_127, ml_176, ml_180, ml_200, ml_254, ml_255, ml_256, ml_300, ml_728, ml_832, ml_65536, h1, h2]
    · have h1 : ¬ g < 0 := by omega
      have h2 : ¬ 3 < g := by omega
      simp (discharger := omega) only [f_X10_isClient, f_X10_in, nI_add, mt_mul, nI_clamp, nI_leI, nI_ltI, nI_eq, mt_in_t, mt_b1, mt_b2, mt_b3, mt_b4, mt_l, mt_g, ↓reduceIte, Nat.reduceEqDiff, Nat.reduceLeDiff, ml_0, ml_1, ml_2, ml_3, ml_4, ml_5, ml_6, ml_7, ml_8, ml_9, ml_10, ml_11, ml_12, ml_13, ml_14, ml_16, ml_31, ml_32, ml_40, ml_42, ml_48, ml_50, ml_57, ml_59, ml_60, ml_63, ml_98, ml_100, ml_103, ml_104, ml_105, ml_106, ml_107, ml_108, ml_109, ml_110, ml_111, ml_112, ml_113, ml_114, ml_115, ml_120, ml_127, ml_176, ml_180, ml_200, ml_254, ml_255, ml_256, ml_300, ml_728, ml_832, ml_65536, h1, h2, mt_bo]
  · right
    refine ⟨?_, ?_⟩
    · by_cases h0 : x < nI 0
      · simp (discharger := omega) only [f_X9_isClient, nI_add, mt_mul, nI_clamp, nI_leI, nI_ltI, nI_eq, mt_in_t, mt_b1, mt_b2, mt_b3, mt_b4, mt_l, mt_g, ↓reduceIte, Nat.reduceEqDiff, Nat.reduceLeDiff, ml_0, ml_1, ml_2, ml_3, ml_4, ml_5, ml_6, ml_7, ml_8, ml_9, ml_10, ml_11, ml_12, ml_13, ml_14, ml_16, ml_31, ml_32, ml_40, ml_42, ml_48, ml_50, ml_57, ml_59, ml_60, ml_63, ml_98, ml_100, ml_103, ml_104, ml_105, ml_106, ml_107, ml_108, ml_109, ml_110, ml_111, ml_112, ml_113, ml_114, ml_115, ml_120, ml_127, ml_176, ml_180, ml_200, ml_254, ml_255, ml_256, ml_300, ml_728, ml_832, ml_65536, h0]
      · rcases h with h | h
        · exact absurd h h0
        · simp (discharger := omega) only [f_X9_isClient, nI_add, mt_mul, nI_clamp, nI_leI, nI_ltI, nI_eq, mt_in_t, mt_b1, mt_b2, mt_b3, mt_b4, mt_l, mt_g, ↓reduceIte, Nat.reduceEqDiff, Nat.reduceLeDiff, ml_0, ml_1, ml_2, ml_3, ml_4, ml_5, ml_6, ml_7, ml_8, ml_9, ml_10, ml_11, ml_12, ml_13, ml_14, ml_16, ml_31, ml_32, ml_40, ml_42, ml_48, ml_50, ml_57, ml_59, ml_60, ml_63, ml_98, ml_100, ml_103, ml_104, ml_105, ml_106, ml_107, ml_108, ml_109, ml_110, ml_111, ml_112, ml_113, ml_114, ml_115, ml_120, ml_127, ml_176, ml_180, ml_200, ml_254, ml_255, ml_256, ml_300, ml_728, ml_832, ml_65536, h0, h]
    · have e : f_X10_in μ' x (nI 0) (nI 3) = some (nI 0) := mt_in_lit (n := 4) (by omega) h
      simp (discharger := omega) only [f_X10_isClient, nI_add, mt_mul, nI_clamp, nI_leI, nI_ltI, nI_eq, mt_in_t, mt_b1, mt_b2, mt_b3, mt_b4, mt_l, mt_g, ↓reduceIte, Nat.reduceEqDiff, Nat.reduceLeDiff, ml_0, ml_1, ml_2, ml_3, ml_4, ml_5, ml_6, ml_7, ml_8, ml_9, ml_10, ml_11, ml_12, ml_13, ml_14, ml_16, ml_31, ml_32, ml_40, ml_42, ml_48, ml_50, ml_57, ml_59, ml_60, ml_63, ml_98, ml_100, ml_103, ml_104, ml_105, ml_106, ml_107, ml_108, ml_109, ml_110, ml_111, ml_112, ml_113, ml_114, ml_115, ml_120, ml_127, ml_176, ml_180, ml_200, ml_254, ml_255, ml_256, ml_300, ml_728, ml_832, ml_65536, e, mt_bo]
theorem mt_mac (μ μ' : fw_M) (x : Int32) : (∃ c, c < 2 ∧ x = nI c ∧ f_X9_isMachine μ x = some (nI 1) ∧ f_X10_isMachine μ' x = some (nI 1)) ∨ (f_X9_isMachine μ x = some (nI 0) ∧ f_X10_isMachine μ' x = some (nI 0)) := by
  rcases mt_rng x (n := 2) (by omega) with ⟨g, hg, rfl⟩ | h
  · left
    refine ⟨g, hg, rfl, ?_, ?_⟩
    · have h1 : ¬ g < 0 := by omega
      have h2 : ¬ 2 ≤ g := by omega
      simp (discharger := omega) only [f_X9_isMachine, nI_add, mt_mul, nI_clamp, nI_leI, nI_ltI, nI_eq, mt_in_t, mt_b1, mt_b2, mt_b3, mt_b4, mt_l, mt_g, ↓reduceIte, Nat.reduceEqDiff, Nat.reduceLeDiff, ml_0, ml_1, ml_2, ml_3, ml_4, ml_5, ml_6, ml_7, ml_8, ml_9, ml_10, ml_11, ml_12, ml_13, ml_14, ml_16, ml_31, ml_32, ml_40, ml_42, ml_48, ml_50, ml_57, ml_59, ml_60, ml_63, ml_98, ml_100, ml_103, ml_104, ml_105, ml_106, ml_107, ml_108, ml_109, ml_110, ml_111, ml_112, ml_113, ml_114, ml_115, ml_120, ml_127, ml_176, ml_180, ml_200, ml_254, ml_255, ml_256, ml_300, ml_728, ml_832, ml_65536, h1, h2]
    · have h1 : ¬ g < 0 := by omega
      have h2 : ¬ 1 < g := by omega
      simp (discharger := omega) only [f_X10_isMachine, f_X10_in, nI_add, mt_mul, nI_clamp, nI_leI, nI_ltI, nI_eq, mt_in_t, mt_b1, mt_b2, mt_b3, mt_b4, mt_l, mt_g, ↓reduceIte, Nat.reduceEqDiff, Nat.reduceLeDiff, ml_0, ml_1, ml_2, ml_3, ml_4, ml_5, ml_6, ml_7, ml_8, ml_9, ml_10, ml_11, ml_12, ml_13, ml_14, ml_16, ml_31, ml_32, ml_40, ml_42, ml_48, ml_50, ml_57, ml_59, ml_60, ml_63, ml_98, ml_100, ml_103, ml_104, ml_105, ml_106, ml_107, ml_108, ml_109, ml_110, ml_111, ml_112, ml_113, ml_114, ml_115, ml_120, ml_127, ml_176, ml_180, ml_200, ml_254, ml_255, ml_256, ml_300, ml_728, ml_832, ml_65536, h1, h2, mt_bo]
  · right
    refine ⟨?_, ?_⟩
    · by_cases h0 : x < nI 0
      · simp (discharger := omega) only [f_X9_isMachine, nI_add, mt_mul, nI_clamp, nI_leI, nI_ltI, nI_eq, mt_in_t, mt_b1, mt_b2, mt_b3, mt_b4, mt_l, mt_g, ↓reduceIte, Nat.reduceEqDiff, Nat.reduceLeDiff, ml_0, ml_1, ml_2, ml_3, ml_4, ml_5, ml_6, ml_7, ml_8, ml_9, ml_10, ml_11, ml_12, ml_13, ml_14, ml_16, ml_31, ml_32, ml_40, ml_42, ml_48, ml_50, ml_57, ml_59, ml_60, ml_63, ml_98, ml_100, ml_103, ml_104, ml_105, ml_106, ml_107, ml_108, ml_109, ml_110, ml_111, ml_112, ml_113, ml_114, ml_115, ml_120, ml_127, ml_176, ml_180, ml_200, ml_254, ml_255, ml_256, ml_300, ml_728, ml_832, ml_65536, h0]
      · rcases h with h | h
        · exact absurd h h0
        · simp (discharger := omega) only [f_X9_isMachine, nI_add, mt_mul, nI_clamp, nI_leI, nI_ltI, nI_eq, mt_in_t, mt_b1, mt_b2, mt_b3, mt_b4, mt_l, mt_g, ↓reduceIte, Nat.reduceEqDiff, Nat.reduceLeDiff, ml_0, ml_1, ml_2, ml_3, ml_4, ml_5, ml_6, ml_7, ml_8, ml_9, ml_10, ml_11, ml_12, ml_13, ml_14, ml_16, ml_31, ml_32, ml_40, ml_42, ml_48, ml_50, ml_57, ml_59, ml_60, ml_63, ml_98, ml_100, ml_103, ml_104, ml_105, ml_106, ml_107, ml_108, ml_109, ml_110, ml_111, ml_112, ml_113, ml_114, ml_115, ml_120, ml_127, ml_176, ml_180, ml_200, ml_254, ml_255, ml_256, ml_300, ml_728, ml_832, ml_65536, h0, h]
    · have e : f_X10_in μ' x (nI 0) (nI 1) = some (nI 0) := mt_in_lit (n := 2) (by omega) h
      simp (discharger := omega) only [f_X10_isMachine, nI_add, mt_mul, nI_clamp, nI_leI, nI_ltI, nI_eq, mt_in_t, mt_b1, mt_b2, mt_b3, mt_b4, mt_l, mt_g, ↓reduceIte, Nat.reduceEqDiff, Nat.reduceLeDiff, ml_0, ml_1, ml_2, ml_3, ml_4, ml_5, ml_6, ml_7, ml_8, ml_9, ml_10, ml_11, ml_12, ml_13, ml_14, ml_16, ml_31, ml_32, ml_40, ml_42, ml_48, ml_50, ml_57, ml_59, ml_60, ml_63, ml_98, ml_100, ml_103, ml_104, ml_105, ml_106, ml_107, ml_108, ml_109, ml_110, ml_111, ml_112, ml_113, ml_114, ml_115, ml_120, ml_127, ml_176, ml_180, ml_200, ml_254, ml_255, ml_256, ml_300, ml_728, ml_832, ml_65536, e, mt_bo]
