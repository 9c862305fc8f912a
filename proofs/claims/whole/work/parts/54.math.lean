/-! the mathematics, 15: the history, and the calls that change the state -/
def ms_push (k : Nat) (h : Nat → Nat → Nat) (σ : Nat → Nat) : Nat → Nat → Nat := fun i => if k < 8 then (if i < k then h i else σ) else (if i < 7 then h (i + 1) else σ)
def ms_k1 (k : Nat) : Nat := if k < 8 then k + 1 else 8
theorem ms_k1_le {k : Nat} : ms_k1 k ≤ 8 := by unfold ms_k1; split <;> omega
theorem ms_push_ok {B k : Nat} {h : Nat → Nat → Nat} {σ : Nat → Nat} (hk : k ≤ 8) (hh : ∀ i, i < k → mt_ok B (h i)) (hs : mt_ok B σ) : ∀ i, i < ms_k1 k → mt_ok B (ms_push k h σ i) := by
  intro i hi
  unfold ms_push
  unfold ms_k1 at hi
  by_cases h8 : k < 8
  · rw [if_pos h8] at hi ⊢
    by_cases hik : i < k
    · rw [if_pos hik]; exact hh i hik
    · rw [if_neg hik]; exact hs
  · rw [if_neg h8] at hi ⊢
    by_cases hik : i < 7
    · rw [if_pos hik]; exact hh (i + 1) (by omega)
    · rw [if_neg hik]; exact hs
section PM
variable {μ : fw_M} {σ : Nat → Nat} {B : Nat}
theorem mc_spare {nw : Nat} (hn : nw ≤ 8) (h : μ 0 11 1 = nI nw) : f_X3_spareRow μ = some (nI ((nw + 1) % 9)) := by
  by_cases p : nw = 8
  · subst p
    simp (discharger := omega) only [f_X3_spareRow, nI_add, mt_mul, nI_clamp, nI_leI, nI_ltI, nI_eq, mt_in_t, mt_b1, mt_b2, mt_b3, mt_b4, mt_l, mt_g, ↓reduceIte, Nat.reduceEqDiff, Nat.reduceLeDiff, ml_0, ml_1, ml_2, ml_3, ml_4, ml_5, ml_6, ml_7, ml_8, ml_9, ml_10, ml_11, ml_12, ml_13, ml_14, ml_16, ml_31, ml_32, ml_40, ml_42, ml_48, ml_50, ml_57, ml_59, ml_60, ml_63, ml_98, ml_100, ml_103, ml_104, ml_105, ml_106, ml_107, ml_108, ml_109, ml_110, ml_111, ml_112, ml_113, ml_114, ml_115, ml_120, ml_127, ml_176, ml_180, ml_200, ml_254, ml_255, ml_256, ml_300, ml_728, ml_832, ml_65536, h]
  · rw [show (nw + 1) % 9 = nw + 1 by omega]
    simp (discharger := omega) only [f_X3_spareRow, nI_add, mt_mul, nI_clamp, nI_leI, nI_ltI, nI_eq, mt_in_t, mt_b1, mt_b2, mt_b3, mt_b4, mt_l, mt_g, ↓reduceIte, Nat.reduceEqDiff, Nat.reduceLeDiff, ml_0, ml_1, ml_2, ml_3, ml_4, ml_5, ml_6, ml_7, ml_8, ml_9, ml_10, ml_11, ml_12, ml_13, ml_14, ml_16, ml_31, ml_32, ml_40, ml_42, ml_48, ml_50, ml_57, ml_59, ml_60, ml_63, ml_98, ml_100, ml_103, ml_104, ml_105, ml_106, ml_107, ml_108, ml_109, ml_110, ml_111, ml_112, ml_113, ml_114, ml_115, ml_120, ml_127, ml_176, ml_180, ml_200, ml_254, ml_255, ml_256, ml_300, ml_728, ml_832, ml_65536, h, p]
theorem mc_prepare {nw : Nat} (hn : nw ≤ 8) (h : μ 0 11 1 = nI nw) (hC : mt_C μ 0 σ) (hk : mt_k σ) : ∃ a, f_X3_prepare μ 0 = some (a, ()) ∧ mt_C a (3 + (nw + 1) % 9) σ ∧ mt_fr (mt_sC (3 + (nw + 1) % 9)) μ a := by
  have e := mc_spare hn h
  obtain ⟨a, e1, C1, F1⟩ := mc_copyFrom (j0 := 3 + (nw + 1) % 9) (j1 := 0) (by omega) hC hk
  refine ⟨a, ?_, C1, F1⟩
  simp (discharger := omega) only [f_X3_prepare, nI_add, mt_mul, nI_clamp, nI_leI, nI_ltI, nI_eq, mt_in_t, mt_b1, mt_b2, mt_b3, mt_b4, mt_l, mt_g, ↓reduceIte, Nat.reduceEqDiff, Nat.reduceLeDiff, ml_0, ml_1, ml_2, ml_3, ml_4, ml_5, ml_6, ml_7, ml_8, ml_9, ml_10, ml_11, ml_12, ml_13, ml_14, ml_16, ml_31, ml_32, ml_40, ml_42, ml_48, ml_50, ml_57, ml_59, ml_60, ml_63, ml_98, ml_100, ml_103, ml_104, ml_105, ml_106, ml_107, ml_108, ml_109, ml_110, ml_111, ml_112, ml_113, ml_114, ml_115, ml_120, ml_127, ml_176, ml_180, ml_200, ml_254, ml_255, ml_256, ml_300, ml_728, ml_832, ml_65536, e, e1]
theorem mc_keep {nw k : Nat} (hn : nw ≤ 8) (h : μ 0 11 1 = nI nw) (h2 : μ 0 11 2 = nI k) (hk : k ≤ 8) : f_X3_keepPrepared μ = some (fw_u (fw_u μ 0 11 1 (nI ((nw + 1) % 9))) 0 11 2 (nI (ms_k1 k)), ()) := by
  have e := mc_spare hn h
  unfold ms_k1
  by_cases p : k < 8
  · have p2 : ¬ 8 < k + 1 := by omega
    simp (discharger := omega) only [f_X3_keepPrepared, nI_add, mt_mul, nI_clamp, nI_leI, nI_ltI, nI_eq, mt_in_t, mt_b1, mt_b2, mt_b3, mt_b4, mt_l, mt_g, ↓reduceIte, Nat.reduceEqDiff, Nat.reduceLeDiff, ml_0, ml_1, ml_2, ml_3, ml_4, ml_5, ml_6, ml_7, ml_8, ml_9, ml_10, ml_11, ml_12, ml_13, ml_14, ml_16, ml_31, ml_32, ml_40, ml_42, ml_48, ml_50, ml_57, ml_59, ml_60, ml_63, ml_98, ml_100, ml_103, ml_104, ml_105, ml_106, ml_107, ml_108, ml_109, ml_110, ml_111, ml_112, ml_113, ml_114, ml_115, ml_120, ml_127, ml_176, ml_180, ml_200, ml_254, ml_255, ml_256, ml_300, ml_728, ml_832, ml_65536, e, mt_un, h2, p, p2]
  · have p2 : 8 < k + 1 := by omega
    simp (discharger := omega) only [f_X3_keepPrepared, nI_add, mt_mul, nI_clamp, nI_leI, nI_ltI, nI_eq, mt_in_t, mt_b1, mt_b2, mt_b3, mt_b4, mt_l, mt_g, ↓reduceIte, Nat.reduceEqDiff, Nat.reduceLeDiff, ml_0, ml_1, ml_2, ml_3, ml_4, ml_5, ml_6, ml_7, ml_8, ml_9, ml_10, ml_11, ml_12, ml_13, ml_14, ml_16, ml_31, ml_32, ml_40, ml_42, ml_48, ml_50, ml_57, ml_59, ml_60, ml_63, ml_98, ml_100, ml_103, ml_104, ml_105, ml_106, ml_107, ml_108, ml_109, ml_110, ml_111, ml_112, ml_113, ml_114, ml_115, ml_120, ml_127, ml_176, ml_180, ml_200, ml_254, ml_255, ml_256, ml_300, ml_728, ml_832, ml_65536, e, mt_un, h2, p, p2]
theorem mt_HC_push {a : fw_M} {nw k : Nat} {h : Nat → Nat → Nat} (hn : nw ≤ 8) (hk : k ≤ 8) (hrows : ∀ i, i < k → mt_C μ (3 + (nw + 10 + i - k) % 9) (h i)) (C1 : mt_C a (3 + (nw + 1) % 9) σ) (F1 : ∀ j f, f < 9 → 3 ≤ j → j ≠ 3 + (nw + 1) % 9 → a j f = μ j f) : mt_HC (fw_u (fw_u a 0 11 1 (nI ((nw + 1) % 9))) 0 11 2 (nI (ms_k1 k))) (ms_k1 k) (ms_push k h σ) := by
  refine ⟨(nw + 1) % 9, by omega, ?_, mt_uy rfl, fun i hi => ?_⟩
  · rw [mt_un (by omega), mt_uy rfl]
  · have hkeep : ∀ j τ, 3 ≤ j → mt_C a j τ → mt_C (fw_u (fw_u a 0 11 1 (nI ((nw + 1) % 9))) 0 11 2 (nI (ms_k1 k))) j τ := fun j τ hj hc => mt_C_k hc (fun f hf => by rw [fw_u_o (by omega), fw_u_o (by omega)])
    refine hkeep _ _ (by omega) ?_
    unfold ms_push
    unfold ms_k1 at hi ⊢
    by_cases h8 : k < 8
    · rw [if_pos h8] at hi ⊢
      by_cases hik : i < k
      · rw [if_pos hik]
        have := hrows i hik
        rw [if_pos h8, show ((nw + 1) % 9 + 10 + i - (k + 1)) % 9 = (nw + 10 + i - k) % 9 by omega]
        exact mt_C_k this (fun f hf => F1 _ f hf (by omega) (by omega))
      · rw [if_neg hik, if_pos h8, show ((nw + 1) % 9 + 10 + i - (k + 1)) % 9 = (nw + 1) % 9 by omega]
        exact C1
    · rw [if_neg h8] at hi ⊢
      by_cases hik : i < 7
      · rw [if_pos hik]
        have := hrows (i + 1) (by omega)
        rw [if_neg h8, show ((nw + 1) % 9 + 10 + i - 8) % 9 = (nw + 10 + (i + 1) - k) % 9 by omega]
        exact mt_C_k this (fun f hf => F1 _ f hf (by omega) (by omega))
      · rw [if_neg hik, if_neg h8, show ((nw + 1) % 9 + 10 + i - 8) % 9 = (nw + 1) % 9 by omega]
        exact C1
theorem mc_remember {k : Nat} {h : Nat → Nat → Nat} (hH : mt_HC μ k h) (hk8 : k ≤ 8) (hC : mt_C μ 0 σ) (hk : mt_k σ) : ∃ a, f_X3_remember μ 0 = some (a, ()) ∧ mt_HC a (ms_k1 k) (ms_push k h σ) ∧ ∀ j f, ¬ ((3 ≤ j ∧ f < 9) ∨ (j = 0 ∧ f = 11)) → a j f = μ j f := by
  obtain ⟨nw, hn, h1, h2, h3⟩ := hH
  obtain ⟨a, e1, C1, F1⟩ := mc_prepare hn h1 hC hk
  have g1 : a 0 11 1 = nI nw := by rw [F1 0 11 (mt_sC_f (by omega))]; exact h1
  have g2 : a 0 11 2 = nI k := by rw [F1 0 11 (mt_sC_f (by omega))]; exact h2
  have e2 := mc_keep hn g1 g2 hk8
  refine ⟨_, ?_, mt_HC_push hn hk8 h3 C1 (fun j f hf hj hne => F1 j f (mt_sC_f (Or.inl hne))), fun j f q => ?_⟩
  · simp (discharger := omega) only [f_X3_remember, nI_add, mt_mul, nI_clamp, nI_leI, nI_ltI, nI_eq, mt_in_t, mt_b1, mt_b2, mt_b3, mt_b4, mt_l, mt_g, ↓reduceIte, Nat.reduceEqDiff, Nat.reduceLeDiff, ml_0, ml_1, ml_2, ml_3, ml_4, ml_5, ml_6, ml_7, ml_8, ml_9, ml_10, ml_11, ml_12, ml_13, ml_14, ml_16, ml_31, ml_32, ml_40, ml_42, ml_48, ml_50, ml_57, ml_59, ml_60, ml_63, ml_98, ml_100, ml_103, ml_104, ml_105, ml_106, ml_107, ml_108, ml_109, ml_110, ml_111, ml_112, ml_113, ml_114, ml_115, ml_120, ml_127, ml_176, ml_180, ml_200, ml_254, ml_255, ml_256, ml_300, ml_728, ml_832, ml_65536, e1, e2]
  · rw [fw_u_o (by omega), fw_u_o (by omega), F1 j f (mt_sC_f (by omega))]
/-! the reference -/
theorem mr_remembers (hM : mt_M μ 19 0 σ) : ∃ a, f_X10_remembers μ = some (a, ()) ∧ mt_M a 20 0 σ ∧ (∀ j f, ¬ (j = 0 ∧ (f = 18 ∨ f = 20)) → a j f = μ j f) ∧ a 0 18 0 = nI 0 ∧ ∀ i, i ≠ 0 → a 0 18 i = μ 0 18 i := by
  obtain ⟨a, e, K1, K2, K3⟩ := mr_fill (μ := fw_u μ 0 18 0 (nI 0)) (fun n a i => f_X10_remembers_L7 n a i) (fd := 20) (od := 0) (N := 104) (fun i => nI (σ i)) (fun a => some (a, ())) (by decide) (fun n a _ => by
    simp (discharger := omega) only [f_X10_remembers_L7, nI_add, mt_mul, nI_clamp, nI_leI, nI_ltI, nI_eq, mt_in_t, mt_b1, mt_b2, mt_b3, mt_b4, mt_l, mt_g, ↓reduceIte, Nat.reduceEqDiff, Nat.reduceLeDiff, ml_0, ml_1, ml_2, ml_3, ml_4, ml_5, ml_6, ml_7, ml_8, ml_9, ml_10, ml_11, ml_12, ml_13, ml_14, ml_16, ml_31, ml_32, ml_40, ml_42, ml_48, ml_50, ml_57, ml_59, ml_60, ml_63, ml_98, ml_100, ml_103, ml_104, ml_105, ml_106, ml_107, ml_108, ml_109, ml_110, ml_111, ml_112, ml_113, ml_114, ml_115, ml_120, ml_127, ml_176, ml_180, ml_200, ml_254, ml_255, ml_256, ml_300, ml_728, ml_832, ml_65536, Nat.le_refl]) (fun n a i hi h => by
    have e : a 0 19 i = nI (σ i) := by rw [h.1 0 19 (by omega), fw_u_o (by omega), mt_at hM hi]
    have hi' : ¬ 104 ≤ i := by omega
    simp (discharger := omega) only [f_X10_remembers_L7, nI_add, mt_mul, nI_clamp, nI_leI, nI_ltI, nI_eq, mt_in_t, mt_b1, mt_b2, mt_b3, mt_b4, mt_l, mt_g, ↓reduceIte, Nat.reduceEqDiff, Nat.reduceLeDiff, ml_0, ml_1, ml_2, ml_3, ml_4, ml_5, ml_6, ml_7, ml_8, ml_9, ml_10, ml_11, ml_12, ml_13, ml_14, ml_16, ml_31, ml_32, ml_40, ml_42, ml_48, ml_50, ml_57, ml_59, ml_60, ml_63, ml_98, ml_100, ml_103, ml_104, ml_105, ml_106, ml_107, ml_108, ml_109, ml_110, ml_111, ml_112, ml_113, ml_114, ml_115, ml_120, ml_127, ml_176, ml_180, ml_200, ml_254, ml_255, ml_256, ml_300, ml_728, ml_832, ml_65536, hi', e, Nat.zero_add])
  refine ⟨a, ?_, fun i hi => K2 i hi, fun j f q => ?_, ?_, fun i hi => ?_⟩
  · have e' : f_X10_remembers_L7 1000 (fw_u μ 0 18 0 (nI 0)) (nI 0) = some (a, ()) := e
    simp (discharger := omega) only [f_X10_remembers, nI_add, mt_mul, nI_clamp, nI_leI, nI_ltI, nI_eq, mt_in_t, mt_b1, mt_b2, mt_b3, mt_b4, mt_l, mt_g, ↓reduceIte, Nat.reduceEqDiff, Nat.reduceLeDiff, ml_0, ml_1, ml_2, ml_3, ml_4, ml_5, ml_6, ml_7, ml_8, ml_9, ml_10, ml_11, ml_12, ml_13, ml_14, ml_16, ml_31, ml_32, ml_40, ml_42, ml_48, ml_50, ml_57, ml_59, ml_60, ml_63, ml_98, ml_100, ml_103, ml_104, ml_105, ml_106, ml_107, ml_108, ml_109, ml_110, ml_111, ml_112, ml_113, ml_114, ml_115, ml_120, ml_127, ml_176, ml_180, ml_200, ml_254, ml_255, ml_256, ml_300, ml_728, ml_832, ml_65536, e']
  · rw [K1 j f (by omega), fw_u_o (by omega)]
  · rw [K1 0 18 (by omega), mt_uy rfl]
  · rw [K1 0 18 (by omega), mt_un (by omega)]
theorem mr_put {k' : Nat} {x : Int32} (h5 : μ 0 18 5 = nI k') (h1 : 1 ≤ k') (h8 : k' ≤ 8) (hM : mt_M μ 20 0 σ) : ∃ a, f_X10_changed_L54 1000 μ x (nI 0) = some (a, x) ∧ mt_K μ a 22 (104 * (k' - 1)) (fun i => nI (σ i)) 104 := by
  have hs : nI k' - nI 1 = nI (k' - 1) := mt_sub h1
  refine mr_fill (fun n a i => f_X10_changed_L54 n a x i) (fd := 22) (od := 104 * (k' - 1)) (N := 104) (fun i => nI (σ i)) (fun a => some (a, x)) (by decide) (fun n a _ => ?_) (fun n a i hi h => ?_)
  · simp (discharger := omega) only [f_X10_changed_L54, nI_add, mt_mul, nI_clamp, nI_leI, nI_ltI, nI_eq, mt_in_t, mt_b1, mt_b2, mt_b3, mt_b4, mt_l, mt_g, ↓reduceIte, Nat.reduceEqDiff, Nat.reduceLeDiff, ml_0, ml_1, ml_2, ml_3, ml_4, ml_5, ml_6, ml_7, ml_8, ml_9, ml_10, ml_11, ml_12, ml_13, ml_14, ml_16, ml_31, ml_32, ml_40, ml_42, ml_48, ml_50, ml_57, ml_59, ml_60, ml_63, ml_98, ml_100, ml_103, ml_104, ml_105, ml_106, ml_107, ml_108, ml_109, ml_110, ml_111, ml_112, ml_113, ml_114, ml_115, ml_120, ml_127, ml_176, ml_180, ml_200, ml_254, ml_255, ml_256, ml_300, ml_728, ml_832, ml_65536, Nat.le_refl]
  · have e : a 0 20 i = nI (σ i) := by
      have := hM i hi
      rw [Nat.zero_add] at this
      rw [h.1 0 20 (by omega), this]
    have e5 : a 0 18 5 = nI k' := by rw [h.1 0 18 (by omega), h5]
    have hi' : ¬ 104 ≤ i := by omega
    simp (discharger := omega) only [f_X10_changed_L54, nI_add, mt_mul, nI_clamp, nI_leI, nI_ltI, nI_eq, mt_in_t, mt_b1, mt_b2, mt_b3, mt_b4, mt_l, mt_g, ↓reduceIte, Nat.reduceEqDiff, Nat.reduceLeDiff, ml_0, ml_1, ml_2, ml_3, ml_4, ml_5, ml_6, ml_7, ml_8, ml_9, ml_10, ml_11, ml_12, ml_13, ml_14, ml_16, ml_31, ml_32, ml_40, ml_42, ml_48, ml_50, ml_57, ml_59, ml_60, ml_63, ml_98, ml_100, ml_103, ml_104, ml_105, ml_106, ml_107, ml_108, ml_109, ml_110, ml_111, ml_112, ml_113, ml_114, ml_115, ml_120, ml_127, ml_176, ml_180, ml_200, ml_254, ml_255, ml_256, ml_300, ml_728, ml_832, ml_65536, hi', e, e5, hs]
theorem mr_changed {k : Nat} {h : Nat → Nat → Nat} {x : Int32} (hH : mt_HM μ k h) (hk8 : k ≤ 8) (hM : mt_M μ 20 0 σ) : ∃ a, f_X10_changed μ x = some (a, x) ∧ mt_HM a (ms_k1 k) (ms_push k h σ) ∧ (∀ j f, ¬ (j = 0 ∧ (f = 18 ∨ f = 22)) → a j f = μ j f) ∧ ∀ i, i ≠ 5 → a 0 18 i = μ 0 18 i := by
  obtain ⟨h5, hr⟩ := hH
  by_cases p : k < 8
  · have p2 : ¬ k = 8 := by omega
    obtain ⟨a, e, K1, K2, K3⟩ := mr_put (μ := fw_u μ 0 18 5 (nI (k + 1))) (x := x) (k' := k + 1) (mt_uy rfl) (by omega) (by omega) (mt_M_k hM (fw_u_o (by omega)))
    rw [Nat.add_sub_cancel] at K2 K3
    refine ⟨a, ?_, ⟨?_, fun i hi => ?_⟩, fun j f q => ?_, fun i hi => ?_⟩
    · simp (discharger := omega) only [f_X10_changed, nI_add, mt_mul, nI_clamp, nI_leI, nI_ltI, nI_eq, mt_in_t, mt_b1, mt_b2, mt_b3, mt_b4, mt_l, mt_g, ↓reduceIte, Nat.reduceEqDiff, Nat.reduceLeDiff, ml_0, ml_1, ml_2, ml_3, ml_4, ml_5, ml_6, ml_7, ml_8, ml_9, ml_10, ml_11, ml_12, ml_13, ml_14, ml_16, ml_31, ml_32, ml_40, ml_42, ml_48, ml_50, ml_57, ml_59, ml_60, ml_63, ml_98, ml_100, ml_103, ml_104, ml_105, ml_106, ml_107, ml_108, ml_109, ml_110, ml_111, ml_112, ml_113, ml_114, ml_115, ml_120, ml_127, ml_176, ml_180, ml_200, ml_254, ml_255, ml_256, ml_300, ml_728, ml_832, ml_65536, h5, p2, e]
    · unfold ms_k1
      rw [K1 0 18 (by omega), mt_uy rfl, if_pos p]
    · unfold ms_k1 at hi
      rw [if_pos p] at hi
      unfold ms_push
      rw [if_pos p]
      by_cases hik : i < k
      · rw [if_pos hik]
        intro q hq
        rw [K3 _ (Or.inl (by omega)), fw_u_o (by omega)]
        exact hr i hik q hq
      · rw [if_neg hik, show i = k by omega]
        intro q hq
        exact K2 q hq
    · rw [K1 j f (by omega), fw_u_o (by omega)]
    · rw [K1 0 18 (by omega), mt_un (by omega)]
  · have hk : k = 8 := by omega
    subst hk
    obtain ⟨b, eb, L1, L2, L3⟩ := mr_fill (μ := μ) (fun n a i => f_X10_changed_L11 n a x i) (fd := 22) (od := 0) (N := 728) (fun i => μ 0 22 (i + 104)) (fun a => f_X10_changed_L54 1000 a x (nI 0)) (by decide) (fun n a _ => by
      simp (discharger := omega) only [f_X10_changed_L11, nI_add, mt_mul, nI_clamp, nI_leI, nI_ltI, nI_eq, mt_in_t, mt_b1, mt_b2, mt_b3, mt_b4, mt_l, mt_g, ↓reduceIte, Nat.reduceEqDiff, Nat.reduceLeDiff, ml_0, ml_1, ml_2, ml_3, ml_4, ml_5, ml_6, ml_7, ml_8, ml_9, ml_10, ml_11, ml_12, ml_13, ml_14, ml_16, ml_31, ml_32, ml_40, ml_42, ml_48, ml_50, ml_57, ml_59, ml_60, ml_63, ml_98, ml_100, ml_103, ml_104, ml_105, ml_106, ml_107, ml_108, ml_109, ml_110, ml_111, ml_112, ml_113, ml_114, ml_115, ml_120, ml_127, ml_176, ml_180, ml_200, ml_254, ml_255, ml_256, ml_300, ml_728, ml_832, ml_65536, Nat.le_refl]) (fun n a i hi h => by
      have e : a 0 22 (i + 104) = μ 0 22 (i + 104) := h.2.2 _ (by omega)
      have hi' : ¬ 728 ≤ i := by omega
      simp (discharger := omega) only [f_X10_changed_L11, nI_add, mt_mul, nI_clamp, nI_leI, nI_ltI, nI_eq, mt_in_t, mt_b1, mt_b2, mt_b3, mt_b4, mt_l, mt_g, ↓reduceIte, Nat.reduceEqDiff, Nat.reduceLeDiff, ml_0, ml_1, ml_2, ml_3, ml_4, ml_5, ml_6, ml_7, ml_8, ml_9, ml_10, ml_11, ml_12, ml_13, ml_14, ml_16, ml_31, ml_32, ml_40, ml_42, ml_48, ml_50, ml_57, ml_59, ml_60, ml_63, ml_98, ml_100, ml_103, ml_104, ml_105, ml_106, ml_107, ml_108, ml_109, ml_110, ml_111, ml_112, ml_113, ml_114, ml_115, ml_120, ml_127, ml_176, ml_180, ml_200, ml_254, ml_255, ml_256, ml_300, ml_728, ml_832, ml_65536, hi', e, Nat.zero_add])
    have b5 : b 0 18 5 = nI 8 := by rw [L1 0 18 (by omega), h5]
    obtain ⟨a, e, K1, K2, K3⟩ := mr_put (μ := b) (x := x) (k' := 8) b5 (by omega) (by omega) (mt_M_k hM (L1 0 20 (by omega)))
    refine ⟨a, ?_, ⟨?_, fun i hi => ?_⟩, fun j f q => ?_, fun i hi => ?_⟩
    · have eb' : f_X10_changed_L11 1000 μ x (nI 0) = some (a, x) := eb.trans e
      simp (discharger := omega) only [f_X10_changed, nI_add, mt_mul, nI_clamp, nI_leI, nI_ltI, nI_eq, mt_in_t, mt_b1, mt_b2, mt_b3, mt_b4, mt_l, mt_g, ↓reduceIte, Nat.reduceEqDiff, Nat.reduceLeDiff, ml_0, ml_1, ml_2, ml_3, ml_4, ml_5, ml_6, ml_7, ml_8, ml_9, ml_10, ml_11, ml_12, ml_13, ml_14, ml_16, ml_31, ml_32, ml_40, ml_42, ml_48, ml_50, ml_57, ml_59, ml_60, ml_63, ml_98, ml_100, ml_103, ml_104, ml_105, ml_106, ml_107, ml_108, ml_109, ml_110, ml_111, ml_112, ml_113, ml_114, ml_115, ml_120, ml_127, ml_176, ml_180, ml_200, ml_254, ml_255, ml_256, ml_300, ml_728, ml_832, ml_65536, h5, eb']
    · unfold ms_k1
      rw [K1 0 18 (by omega), b5, if_neg p]
    · unfold ms_k1 at hi
      rw [if_neg p] at hi
      unfold ms_push
      rw [if_neg p]
      by_cases hik : i < 7
      · rw [if_pos hik]
        intro q hq
        have l2 := L2 (104 * i + q) (by omega)
        rw [Nat.zero_add] at l2
        rw [K3 _ (Or.inl (by omega)), l2]
        show μ 0 22 (104 * i + q + 104) = _
        rw [show 104 * i + q + 104 = 104 * (i + 1) + q by omega]
        exact hr (i + 1) (by omega) q hq
      · rw [if_neg hik, show i = 7 by omega]
        intro q hq
        exact K2 q hq
    · rw [K1 j f (by omega), L1 j f (by omega)]
    · rw [K1 0 18 (by omega), L1 0 18 (by omega)]
/-- a call that is carried out: both sides record the state, change it alike, and keep the rest -/
def mt_op (σ σ' : Nat → Nat) (x : Nat) (R : fw_M → Option (fw_M × Int32)) : Prop := ∀ b, mt_M b 19 0 σ → ∃ c, R b = some (c, nI 0) ∧ mt_M c 19 0 σ' ∧ mt_fr mt_sW b c ∧ c 0 18 15 = nI x ∧ ∀ i, i ≠ 15 → c 0 18 i = b 0 18 i
def f_commit (R : fw_M → Option (fw_M × Int32)) (m : fw_M) : Option (fw_M × Int32) := fw_b2 (f_X10_remembers m) (fun m1 _ => fw_b2 (R m1) (fun m2 r2 => fw_b2 (f_X10_ends m2 r2) (fun m3 r3 => some (m3, r3))))
theorem mt_sW_f {j f : Nat} (h : ¬ (j = 0 ∧ (f = 18 ∨ f = 19 ∨ f = 26))) : mt_sW j f = false := decide_eq_false h
theorem mt_commit {a1 a2 : fw_M} {σ' : Nat → Nat} {k x B' : Nat} {h : Nat → Nat → Nat} {R : fw_M → Option (fw_M × Int32)} (hR : mt_R B μ) (hk8 : k ≤ 8) (hHM : mt_HM μ k h) (hHo : ∀ i, i < k → mt_ok B (h i)) (hS : mt_S B σ μ) (HC1 : mt_HC a1 (ms_k1 k) (ms_push k h σ)) (F1 : ∀ j f, ¬ ((3 ≤ j ∧ f < 9) ∨ (j = 0 ∧ f = 11)) → a1 j f = μ j f) (C2 : mt_C a2 0 σ') (F2 : mt_fr (mt_sC 0) a1 a2) (hB : B ≤ B') (hok' : mt_ok B' σ') (hop : mt_op σ σ' x R) : ∃ μ2, f_commit R a2 = some (μ2, nI x) ∧ μ2 0 18 0 = nI 0 ∧ mt_R B' μ2 := by
  obtain ⟨hC, hM, hok⟩ := hS
  have f12 : ∀ j f, ¬ ((3 ≤ j ∧ f < 9) ∨ (j = 0 ∧ f = 11) ∨ (j = 0 ∧ f < 9)) → a2 j f = μ j f := fun j f q => by
    rw [F2 j f (mt_sC_f (by omega)), F1 j f (by omega)]
  obtain ⟨b1, e1, M1, G1, t1, u1⟩ := mr_remembers (μ := a2) (mt_M_k hM (f12 0 19 (by omega)))
  have M19 : mt_M b1 19 0 σ := mt_M_k hM (by rw [G1 0 19 (by omega), f12 0 19 (by omega)])
  obtain ⟨b2, e2, M2, G2, x2, u2⟩ := hop b1 M19
  have g2 : ∀ j f, ¬ (j = 0 ∧ (f = 18 ∨ f = 19 ∨ f = 20 ∨ f = 26)) → b2 j f = a2 j f := fun j f q => by
    rw [G2 j f (mt_sW_f (by omega)), G1 j f (by omega)]
  have HM2 : mt_HM b2 k h := mt_HM_s hHM (by rw [u2 5 (by omega), u1 5 (by omega), f12 0 18 (by omega)]) (by rw [g2 0 22 (by omega), f12 0 22 (by omega)])
  obtain ⟨b3, e3, HM3, G3, u3⟩ := mr_changed (μ := b2) (x := nI x) HM2 hk8 (mt_M_k M1 (G2 0 20 (mt_sW_f (by omega))))
  have g3 : ∀ j f, ¬ (j = 0 ∧ (f = 18 ∨ f = 19 ∨ f = 20 ∨ f = 22 ∨ f = 26)) → b3 j f = a2 j f := fun j f q => by
    rw [G3 j f (by omega), g2 j f (by omega)]
  have g4 : ∀ j f, ¬ ((3 ≤ j ∧ f < 9) ∨ (j = 0 ∧ f = 11) ∨ (j = 0 ∧ f < 9) ∨ (j = 0 ∧ (f = 18 ∨ f = 19 ∨ f = 20 ∨ f = 22 ∨ f = 26))) → b3 j f = μ j f := fun j f q => by
    rw [g3 j f (by omega), f12 j f (by omega)]
  have g18 : ∀ i, i ≠ 0 → i ≠ 5 → i ≠ 15 → b3 0 18 i = μ 0 18 i := fun i q1 q2 q3 => by
    rw [u3 i q2, u2 i q3, u1 i q1, f12 0 18 (by omega)]
  refine ⟨b3, ?_, ?_, ?_⟩
  · simp (discharger := omega) only [f_commit, f_X10_ends, nI_add, mt_mul, nI_clamp, nI_leI, nI_ltI, nI_eq, mt_in_t, mt_b1, mt_b2, mt_b3, mt_b4, mt_l, mt_g, ↓reduceIte, Nat.reduceEqDiff, Nat.reduceLeDiff, ml_0, ml_1, ml_2, ml_3, ml_4, ml_5, ml_6, ml_7, ml_8, ml_9, ml_10, ml_11, ml_12, ml_13, ml_14, ml_16, ml_31, ml_32, ml_40, ml_42, ml_48, ml_50, ml_57, ml_59, ml_60, ml_63, ml_98, ml_100, ml_103, ml_104, ml_105, ml_106, ml_107, ml_108, ml_109, ml_110, ml_111, ml_112, ml_113, ml_114, ml_115, ml_120, ml_127, ml_176, ml_180, ml_200, ml_254, ml_255, ml_256, ml_300, ml_728, ml_832, ml_65536, e1, e2, x2, e3]
  · rw [u3 0 (by omega), u2 0 (by omega), t1]
  · obtain ⟨-, -, hV, ⟨n, n60, T1, T2, T3⟩, ⟨v, v1, v2, v3⟩, ⟨w, w1, w2, w3⟩, ⟨m, m1, m2, m3, m4⟩⟩ := hR
    refine ⟨⟨σ', mt_C_k C2 (fun f hf => g3 0 f (by omega)), mt_M_k M2 (G3 0 19 (by omega)), hok'⟩, ⟨ms_k1 k, ms_push k h σ, ms_k1_le, mt_HC_s HC1 (fun j f hf hj => by rw [g3 j f (by omega), F2 j f (mt_sC_f (by omega))]) (by rw [g3 0 11 (by omega), F2 0 11 (mt_sC_f (by omega))]), HM3, fun i hi => mt_ok_m (ms_push_ok hk8 hHo hok i hi) hB⟩, ?_, ⟨n, n60, by rw [g4 0 13 (by omega)]; exact T1, by rw [g18 11 (by omega) (by omega) (by omega)]; exact T2, by rw [g4 0 14 (by omega), g4 0 23 (by omega)]; exact T3⟩, ⟨v, v1, by rw [g4 0 10 (by omega)]; exact v2, by rw [g18 13 (by omega) (by omega) (by omega)]; exact v3⟩, ⟨w, w1, by rw [g4 0 10 (by omega)]; exact w2, by rw [g18 14 (by omega) (by omega) (by omega)]; exact w3⟩, ⟨m, m1, by rw [g4 0 16 (by omega)]; exact m2, by rw [g18 12 (by omega) (by omega) (by omega)]; exact m3, by rw [g4 0 17 (by omega), g4 0 25 (by omega)]; exact m4⟩⟩
    unfold mt_V
    rw [g4 0 10 (by omega), g18 6 (by omega) (by omega) (by omega)]
    rcases hV with hV | ⟨va, vb, τ, vc, vd, ve⟩
    · exact Or.inl hV
    · exact Or.inr ⟨va, vb, τ, mt_C_k vc (fun f hf => g4 2 f (by omega)), mt_M_k vd (g4 0 21 (by omega)), mt_ok_m ve hB⟩
theorem mt_refuse {t : Nat} {R : fw_M → Option (fw_M × Int32)} (hR : mt_R B μ) (hM : mt_M μ 19 0 σ) (ht : t ≠ 0) (ht2 : t < 100) (hop : ∀ b, mt_M b 19 0 σ → R b = some (b, nI t)) : ∃ μ2, f_commit R μ = some (μ2, nI 0) ∧ μ2 0 18 0 = nI t ∧ mt_R B μ2 := by
  obtain ⟨b1, e1, M1, G1, t1, u1⟩ := mr_remembers hM
  have M19 : mt_M b1 19 0 σ := mt_M_k hM (G1 0 19 (by omega))
  have e2 := hop b1 M19
  refine ⟨fw_u b1 0 18 0 (nI t), ?_, mt_uy rfl, mt_R_s hR ?_⟩
  · simp (discharger := omega) only [f_commit, f_X10_ends, f_X10_fails, nI_add, mt_mul, nI_clamp, nI_leI, nI_ltI, nI_eq, mt_in_t, mt_b1, mt_b2, mt_b3, mt_b4, mt_l, mt_g, ↓reduceIte, Nat.reduceEqDiff, Nat.reduceLeDiff, ml_0, ml_1, ml_2, ml_3, ml_4, ml_5, ml_6, ml_7, ml_8, ml_9, ml_10, ml_11, ml_12, ml_13, ml_14, ml_16, ml_31, ml_32, ml_40, ml_42, ml_48, ml_50, ml_57, ml_59, ml_60, ml_63, ml_98, ml_100, ml_103, ml_104, ml_105, ml_106, ml_107, ml_108, ml_109, ml_110, ml_111, ml_112, ml_113, ml_114, ml_115, ml_120, ml_127, ml_176, ml_180, ml_200, ml_254, ml_255, ml_256, ml_300, ml_728, ml_832, ml_65536, e1, e2, ht]
  · refine ⟨fun j f q r => ?_, fun f q => ?_, ?_, fun i q => ?_⟩
    · rw [fw_u_o (by omega), G1 j f (by omega)]
    · rw [fw_u_o (by omega), G1 0 f (by omega)]
    · rw [fw_u_o (by omega), G1 0 13 (by omega)]
    · rw [mt_un (by omega), u1 i (by omega)]
end PM
