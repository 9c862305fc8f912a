/-! the mathematics, 16: bring, load, takeOut, setTemperature, run -/
theorem ms_up_s {σ : Nat → Nat} {k v i : Nat} (h : i = k) : ms_up σ k v i = v := if_pos h
theorem ms_up_o {σ : Nat → Nat} {k v i : Nat} (h : i ≠ k) : ms_up σ k v i = σ i := if_neg h
def ms_add (σ : Nat → Nat) (c s d t : Nat) : Nat → Nat := ms_up (ms_up (ms_up (ms_up (ms_up (ms_up (ms_up σ (4 + 6 * σ 0 + 0) c) (4 + 6 * σ 0 + 1) s) (4 + 6 * σ 0 + 2) d) (4 + 6 * σ 0 + 3) t) (4 + 6 * σ 0 + 4) 0) (4 + 6 * σ 0 + 5) 0) 0 (σ 0 + 1)
theorem ms_add_o {σ : Nat → Nat} {c s d t i : Nat} (h0 : i ≠ 0) (h : i < 4 + 6 * σ 0 ∨ 4 + 6 * σ 0 + 6 ≤ i) : ms_add σ c s d t i = σ i := by
  simp (discharger := omega) only [ms_add, ms_up_o]
theorem ms_add_0 {σ : Nat → Nat} {c s d t : Nat} : ms_add σ c s d t 0 = σ 0 + 1 := ms_up_s rfl
theorem ms_add_n {σ : Nat → Nat} {c s d t : Nat} : ms_add σ c s d t (4 + 6 * σ 0 + 0) = c ∧ ms_add σ c s d t (4 + 6 * σ 0 + 1) = s ∧ ms_add σ c s d t (4 + 6 * σ 0 + 2) = d ∧ ms_add σ c s d t (4 + 6 * σ 0 + 3) = t ∧ ms_add σ c s d t (4 + 6 * σ 0 + 4) = 0 ∧ ms_add σ c s d t (4 + 6 * σ 0 + 5) = 0 := by
  refine ⟨?_, ?_, ?_, ?_, ?_, ?_⟩ <;> simp (discharger := omega) only [ms_add, ms_up_o, ms_up_s]
theorem ms_add_ok {B : Nat} {σ : Nat → Nat} {c s d t : Nat} (hok : mt_ok B σ) (hn : σ 0 < 16) (hc : c < 4) (hs : s < 2) (hd : d < 8) (ht : t < 256) : mt_ok B (ms_add σ c s d t) := by
  obtain ⟨hk, h1, h2, h3, h4⟩ := hok
  obtain ⟨n0, n1, n2, n3, n4, n5⟩ := ms_add_n (σ := σ) (c := c) (s := s) (d := d) (t := t)
  have old : ∀ g w, g < σ 0 → w < 6 → ms_add σ c s d t (4 + 6 * g + w) = σ (4 + 6 * g + w) := fun g w hg hw => ms_add_o (by omega) (by omega)
  refine ⟨⟨by rw [ms_add_0]; omega, fun g hg => ?_⟩, by rw [ms_add_o (by omega) (by omega)]; exact h1, fun m hm => by rw [ms_add_o (by omega) (by omega)]; exact h2 m hm, fun m hm => ?_, fun q hq => by rw [ms_add_o (by omega) (by omega), ms_add_o (by omega) (by omega)]; exact h4 q hq⟩
  · rw [ms_add_0] at hg
    unfold mt_G
    by_cases hgn : g = σ 0
    · rw [hgn, n0, n1, n2, n3, n4]
      exact ⟨hc, hs, hd, ht, by decide⟩
    · rw [old g 0 (by omega) (by omega), old g 1 (by omega) (by omega), old g 2 (by omega) (by omega), old g 3 (by omega) (by omega), old g 4 (by omega) (by omega)]
      exact hk.2 g (by omega)
  · have : ms_held (ms_add σ c s d t) m = ms_held σ m := by
      unfold ms_held
      rw [ms_add_0]
      show mt_sm (fun g => if ms_add σ c s d t (4 + 6 * g + 4) = m + 1 then 1 else 0) (σ 0) + (if ms_add σ c s d t (4 + 6 * σ 0 + 4) = m + 1 then 1 else 0) = _
      rw [n4, if_neg (by omega), Nat.add_zero]
      exact mt_sm_c (fun g hg => by rw [old g 4 hg (by omega)])
    rw [this]
    exact h3 m hm
section PB
variable {μ : fw_M} {σ : Nat → Nat} {B : Nat}
theorem mc_addGarment {c s d t : Nat} (hC : mt_C μ 0 σ) (hn : σ 0 < 16) (hs : s < 2) : ∃ a, f_X7_addGarment μ 0 (nI c) (nI s) (nI d) (nI t) = some (a, nI (σ 0)) ∧ mt_C a 0 (ms_add σ c s d t) ∧ mt_fr (mt_sC 0) μ a := by
  have cn := hC.1
  obtain ⟨n0, n1, n2, n3, n4, n5⟩ := ms_add_n (σ := σ) (c := c) (s := s) (d := d) (t := t)
  have old : ∀ g w, g < σ 0 → w < 6 → ms_add σ c s d t (4 + 6 * g + w) = σ (4 + 6 * g + w) := fun g w hg hw => ms_add_o (by omega) (by omega)
  refine ⟨fw_u (fw_u (fw_u (fw_u (fw_u (fw_u (fw_u μ 0 1 (σ 0) (nI c)) 0 2 (σ 0) (nI s)) 0 3 (σ 0) (nI d)) 0 4 (σ 0) (nI t)) 0 5 (σ 0) (nI 0)) 0 6 (σ 0) (nI 0)) 0 0 6 (nI (σ 0 + 1)), ?_, ?_, ?_⟩
  · simp (discharger := omega) only [f_X7_addGarment, nI_add, mt_mul, nI_clamp, nI_leI, nI_ltI, nI_eq, mt_in_t, mt_b1, mt_b2, mt_b3, mt_b4, mt_l, mt_g, ↓reduceIte, Nat.reduceEqDiff, Nat.reduceLeDiff, ml_0, ml_1, ml_2, ml_3, ml_4, ml_5, ml_6, ml_7, ml_8, ml_9, ml_10, ml_11, ml_12, ml_13, ml_14, ml_16, ml_31, ml_32, ml_40, ml_42, ml_48, ml_50, ml_57, ml_59, ml_60, ml_63, ml_98, ml_100, ml_103, ml_104, ml_105, ml_106, ml_107, ml_108, ml_109, ml_110, ml_111, ml_112, ml_113, ml_114, ml_115, ml_120, ml_127, ml_176, ml_180, ml_200, ml_254, ml_255, ml_256, ml_300, ml_728, ml_832, ml_65536, cn, mt_narb, mt_un]
  · refine mt_C_of ?_ ?_ (fun m hm => ?_) (fun q hq => ?_) (fun w hw g hg => ?_)
    · rw [mt_uy rfl, ms_add_0]
    · rw [mt_un (by omega), mt_un (by omega), mt_un (by omega), mt_un (by omega), mt_un (by omega), mt_un (by omega), mt_un (by omega), ms_add_o (by omega) (by omega)]
      exact hC.2.1
    · rw [mt_un (by omega), mt_un (by omega), mt_un (by omega), mt_un (by omega), mt_un (by omega), mt_un (by omega), mt_un (by omega), ms_add_o (by omega) (by omega)]
      exact hC.2.2.1 m hm
    · rw [mt_un (by omega), mt_un (by omega), mt_un (by omega), mt_un (by omega), mt_un (by omega), mt_un (by omega), mt_un (by omega), ms_add_o (by omega) (by omega)]
      exact hC.2.2.2.1 q hq
    · rw [ms_add_0] at hg
      by_cases hgn : g = σ 0
      · subst hgn
        have hw6 : w = 0 ∨ w = 1 ∨ w = 2 ∨ w = 3 ∨ w = 4 ∨ w = 5 := by omega
        rcases hw6 with rfl | rfl | rfl | rfl | rfl | rfl
        · rw [n0, mt_un (by omega), mt_un (by omega), mt_un (by omega), mt_un (by omega), mt_un (by omega), mt_un (by omega)]
          exact mt_uy rfl
        · rw [n1, mt_un (by omega), mt_un (by omega), mt_un (by omega), mt_un (by omega), mt_un (by omega)]
          exact mt_uy rfl
        · rw [n2, mt_un (by omega), mt_un (by omega), mt_un (by omega), mt_un (by omega)]
          exact mt_uy rfl
        · rw [n3, mt_un (by omega), mt_un (by omega), mt_un (by omega)]
          exact mt_uy rfl
        · rw [n4, mt_un (by omega), mt_un (by omega)]
          exact mt_uy rfl
        · rw [n5, mt_un (by omega)]
          exact mt_uy rfl
      · rw [old g w (by omega) hw, mt_un (by omega), mt_un (by omega), mt_un (by omega), mt_un (by omega), mt_un (by omega), mt_un (by omega), mt_un (by omega)]
        exact mt_C_g hC hw (by omega)
  · have hS : ∀ f, f < 9 → mt_sC 0 0 f = true := fun f hf => mt_sC_t hf
    exact mt_fr_a (mt_fr_a (mt_fr_a (mt_fr_a (mt_fr_a (mt_fr_a (mt_fr_a mt_fr_r (hS 1 (by decide))) (hS 2 (by decide))) (hS 3 (by decide))) (hS 4 (by decide))) (hS 5 (by decide))) (hS 6 (by decide))) (hS 0 (by decide))
theorem mt_255 {x : Int32} (h : x < 0 ∨ nI 256 ≤ x) (h0 : ¬ x < nI 0) : ¬ x ≤ nI 255 := by
  rcases h with h | h
  · exact absurd h h0
  · rw [Int32.le_iff_toInt_le, nI_toInt (by decide)] at h
    rw [Int32.le_iff_toInt_le, nI_toInt (by decide)]
    omega
/-- how both sides look at the arguments of bring -/
theorem mt_bringArgs (μ : fw_M) (hC : mt_C μ 0 σ) (h16 : σ 0 ≤ 16) (x1 x3 x4 : Int32) : (∃ c d t, c < 4 ∧ d < 8 ∧ t < 256 ∧ σ 0 < 16 ∧ x1 = nI c ∧ x3 = nI d ∧ x4 = nI t ∧ f_X7_faultOfBringing μ 0 x1 x3 x4 = some (nI 0)) ∨ ∃ r t, ((r = 1 ∧ t = 1) ∨ (r = 2 ∧ t = 2) ∨ (r = 4 ∧ t = 3)) ∧ f_X7_faultOfBringing μ 0 x1 x3 x4 = some (nI r) ∧ ∀ s b, mt_M b 19 0 σ → f_X10_brings b x1 s x3 x4 = some (b, nI t) := by
  have cn := hC.1
  rcases mt_rng x1 (n := 4) (by omega) with ⟨c, hc, rfl⟩ | h1
  · have cl : ∀ m, f_X9_isClient m (nI c) = some (nI 1) := fun m => by
      have z1 : ¬ c < 0 := by omega
      have z2 : ¬ 4 ≤ c := by omega
      simp (discharger := omega) only [f_X9_isClient, nI_add, mt_mul, nI_clamp, nI_leI, nI_ltI, nI_eq, mt_in_t, mt_b1, mt_b2, mt_b3, mt_b4, mt_l, mt_g, ↓reduceIte, Nat.reduceEqDiff, Nat.reduceLeDiff, ml_0, ml_1, ml_2, ml_3, ml_4, ml_5, ml_6, ml_7, ml_8, ml_9, ml_10, ml_11, ml_12, ml_13, ml_14, ml_16, ml_31, ml_32, ml_40, ml_42, ml_48, ml_50, ml_57, ml_59, ml_60, ml_63, ml_98, ml_100, ml_103, ml_104, ml_105, ml_106, ml_107, ml_108, ml_109, ml_110, ml_111, ml_112, ml_113, ml_114, ml_115, ml_120, ml_127, ml_176, ml_180, ml_200, ml_254, ml_255, ml_256, ml_300, ml_728, ml_832, ml_65536, z1, z2]
    have cl2 : ∀ m, f_X10_isClient m (nI c) = some (nI 1) := fun m => by
      have z1 : ¬ c < 0 := by omega
      have z2 : ¬ 3 < c := by omega
      simp (discharger := omega) only [f_X10_isClient, f_X10_in, nI_add, mt_mul, nI_clamp, nI_leI, nI_ltI, nI_eq, mt_in_t, mt_b1, mt_b2, mt_b3, mt_b4, mt_l, mt_g, ↓reduceIte, Nat.reduceEqDiff, Nat.reduceLeDiff, ml_0, ml_1, ml_2, ml_3, ml_4, ml_5, ml_6, ml_7, ml_8, ml_9, ml_10, ml_11, ml_12, ml_13, ml_14, ml_16, ml_31, ml_32, ml_40, ml_42, ml_48, ml_50, ml_57, ml_59, ml_60, ml_63, ml_98, ml_100, ml_103, ml_104, ml_105, ml_106, ml_107, ml_108, ml_109, ml_110, ml_111, ml_112, ml_113, ml_114, ml_115, ml_120, ml_127, ml_176, ml_180, ml_200, ml_254, ml_255, ml_256, ml_300, ml_728, ml_832, ml_65536, z1, z2, mt_bo]
    rcases mt_rng x3 (n := 8) (by omega) with ⟨d, hd, rfl⟩ | h3
    · have d1 : ¬ d < 0 := by omega
      have d2 : ¬ 8 ≤ d := by omega
      have d3 : ¬ 7 < d := by omega
      rcases mt_rng x4 (n := 256) (by omega) with ⟨t, ht, rfl⟩ | h4
      · have t1 : ¬ t < 0 := by omega
        have t2 : t ≤ 255 := by omega
        have t3 : ¬ 255 < t := by omega
        by_cases hn : σ 0 < 16
        · left
          refine ⟨c, d, t, hc, hd, ht, hn, rfl, rfl, rfl, ?_⟩
          simp (discharger := omega) only [f_X7_faultOfBringing, nI_add, mt_mul, nI_clamp, nI_leI, nI_ltI, nI_eq, mt_in_t, mt_b1, mt_b2, mt_b3, mt_b4, mt_l, mt_g, ↓reduceIte, Nat.reduceEqDiff, Nat.reduceLeDiff, ml_0, ml_1, ml_2, ml_3, ml_4, ml_5, ml_6, ml_7, ml_8, ml_9, ml_10, ml_11, ml_12, ml_13, ml_14, ml_16, ml_31, ml_32, ml_40, ml_42, ml_48, ml_50, ml_57, ml_59, ml_60, ml_63, ml_98, ml_100, ml_103, ml_104, ml_105, ml_106, ml_107, ml_108, ml_109, ml_110, ml_111, ml_112, ml_113, ml_114, ml_115, ml_120, ml_127, ml_176, ml_180, ml_200, ml_254, ml_255, ml_256, ml_300, ml_728, ml_832, ml_65536, cl, cn, d1, d2, t1, t2, hn]
        · right
          refine ⟨4, 3, Or.inr (Or.inr ⟨rfl, rfl⟩), ?_, fun s b hb => ?_⟩
          · simp (discharger := omega) only [f_X7_faultOfBringing, nI_add, mt_mul, nI_clamp, nI_leI, nI_ltI, nI_eq, mt_in_t, mt_b1, mt_b2, mt_b3, mt_b4, mt_l, mt_g, ↓reduceIte, Nat.reduceEqDiff, Nat.reduceLeDiff, ml_0, ml_1, ml_2, ml_3, ml_4, ml_5, ml_6, ml_7, ml_8, ml_9, ml_10, ml_11, ml_12, ml_13, ml_14, ml_16, ml_31, ml_32, ml_40, ml_42, ml_48, ml_50, ml_57, ml_59, ml_60, ml_63, ml_98, ml_100, ml_103, ml_104, ml_105, ml_106, ml_107, ml_108, ml_109, ml_110, ml_111, ml_112, ml_113, ml_114, ml_115, ml_120, ml_127, ml_176, ml_180, ml_200, ml_254, ml_255, ml_256, ml_300, ml_728, ml_832, ml_65536, cl, cn, d1, d2, t1, t2, hn]
          · have rn := mt_at hb (i := 0) (by decide)
            have hn2 : σ 0 = 16 := by omega
            simp (discharger := omega) only [f_X10_brings, f_X10_in, nI_add, mt_mul, nI_clamp, nI_leI, nI_ltI, nI_eq, mt_in_t, mt_b1, mt_b2, mt_b3, mt_b4, mt_l, mt_g, ↓reduceIte, Nat.reduceEqDiff, Nat.reduceLeDiff, ml_0, ml_1, ml_2, ml_3, ml_4, ml_5, ml_6, ml_7, ml_8, ml_9, ml_10, ml_11, ml_12, ml_13, ml_14, ml_16, ml_31, ml_32, ml_40, ml_42, ml_48, ml_50, ml_57, ml_59, ml_60, ml_63, ml_98, ml_100, ml_103, ml_104, ml_105, ml_106, ml_107, ml_108, ml_109, ml_110, ml_111, ml_112, ml_113, ml_114, ml_115, ml_120, ml_127, ml_176, ml_180, ml_200, ml_254, ml_255, ml_256, ml_300, ml_728, ml_832, ml_65536, cl2, rn, d1, d3, t1, t3, hn2]
      · right
        refine ⟨2, 2, Or.inr (Or.inl ⟨rfl, rfl⟩), ?_, fun s b hb => ?_⟩
        · by_cases h0 : x4 < nI 0
          · simp (discharger := omega) only [f_X7_faultOfBringing, nI_add, mt_mul, nI_clamp, nI_leI, nI_ltI, nI_eq, mt_in_t, mt_b1, mt_b2, mt_b3, mt_b4, mt_l, mt_g, ↓reduceIte, Nat.reduceEqDiff, Nat.reduceLeDiff, ml_0, ml_1, ml_2, ml_3, ml_4, ml_5, ml_6, ml_7, ml_8, ml_9, ml_10, ml_11, ml_12, ml_13, ml_14, ml_16, ml_31, ml_32, ml_40, ml_42, ml_48, ml_50, ml_57, ml_59, ml_60, ml_63, ml_98, ml_100, ml_103, ml_104, ml_105, ml_106, ml_107, ml_108, ml_109, ml_110, ml_111, ml_112, ml_113, ml_114, ml_115, ml_120, ml_127, ml_176, ml_180, ml_200, ml_254, ml_255, ml_256, ml_300, ml_728, ml_832, ml_65536, cl, cn, d1, d2, h0]
          · have h5 := mt_255 h4 h0
            simp (discharger := omega) only [f_X7_faultOfBringing, nI_add, mt_mul, nI_clamp, nI_leI, nI_ltI, nI_eq, mt_in_t, mt_b1, mt_b2, mt_b3, mt_b4, mt_l, mt_g, ↓reduceIte, Nat.reduceEqDiff, Nat.reduceLeDiff, ml_0, ml_1, ml_2, ml_3, ml_4, ml_5, ml_6, ml_7, ml_8, ml_9, ml_10, ml_11, ml_12, ml_13, ml_14, ml_16, ml_31, ml_32, ml_40, ml_42, ml_48, ml_50, ml_57, ml_59, ml_60, ml_63, ml_98, ml_100, ml_103, ml_104, ml_105, ml_106, ml_107, ml_108, ml_109, ml_110, ml_111, ml_112, ml_113, ml_114, ml_115, ml_120, ml_127, ml_176, ml_180, ml_200, ml_254, ml_255, ml_256, ml_300, ml_728, ml_832, ml_65536, cl, cn, d1, d2, h0, h5]
        · have e : f_X10_in b x4 (nI 0) (nI 255) = some (nI 0) := mt_in_lit (n := 256) (by omega) h4
          have e2 : f_X10_in b (nI d) (nI 0) (nI 7) = some (nI 1) := by simp (discharger := omega) only [f_X10_in, nI_add, mt_mul, nI_clamp, nI_leI, nI_ltI, nI_eq, mt_in_t, mt_b1, mt_b2, mt_b3, mt_b4, mt_l, mt_g, ↓reduceIte, Nat.reduceEqDiff, Nat.reduceLeDiff, ml_0, ml_1, ml_2, ml_3, ml_4, ml_5, ml_6, ml_7, ml_8, ml_9, ml_10, ml_11, ml_12, ml_13, ml_14, ml_16, ml_31, ml_32, ml_40, ml_42, ml_48, ml_50, ml_57, ml_59, ml_60, ml_63, ml_98, ml_100, ml_103, ml_104, ml_105, ml_106, ml_107, ml_108, ml_109, ml_110, ml_111, ml_112, ml_113, ml_114, ml_115, ml_120, ml_127, ml_176, ml_180, ml_200, ml_254, ml_255, ml_256, ml_300, ml_728, ml_832, ml_65536, d1, d3]
          simp (discharger := omega) only [f_X10_brings, nI_add, mt_mul, nI_clamp, nI_leI, nI_ltI, nI_eq, mt_in_t, mt_b1, mt_b2, mt_b3, mt_b4, mt_l, mt_g, ↓reduceIte, Nat.reduceEqDiff, Nat.reduceLeDiff, ml_0, ml_1, ml_2, ml_3, ml_4, ml_5, ml_6, ml_7, ml_8, ml_9, ml_10, ml_11, ml_12, ml_13, ml_14, ml_16, ml_31, ml_32, ml_40, ml_42, ml_48, ml_50, ml_57, ml_59, ml_60, ml_63, ml_98, ml_100, ml_103, ml_104, ml_105, ml_106, ml_107, ml_108, ml_109, ml_110, ml_111, ml_112, ml_113, ml_114, ml_115, ml_120, ml_127, ml_176, ml_180, ml_200, ml_254, ml_255, ml_256, ml_300, ml_728, ml_832, ml_65536, cl2, e, e2]
    · right
      refine ⟨2, 2, Or.inr (Or.inl ⟨rfl, rfl⟩), ?_, fun s b hb => ?_⟩
      · by_cases h0 : x3 < nI 0
        · simp (discharger := omega) only [f_X7_faultOfBringing, nI_add, mt_mul, nI_clamp, nI_leI, nI_ltI, nI_eq, mt_in_t, mt_b1, mt_b2, mt_b3, mt_b4, mt_l, mt_g, ↓reduceIte, Nat.reduceEqDiff, Nat.reduceLeDiff, ml_0, ml_1, ml_2, ml_3, ml_4, ml_5, ml_6, ml_7, ml_8, ml_9, ml_10, ml_11, ml_12, ml_13, ml_14, ml_16, ml_31, ml_32, ml_40, ml_42, ml_48, ml_50, ml_57, ml_59, ml_60, ml_63, ml_98, ml_100, ml_103, ml_104, ml_105, ml_106, ml_107, ml_108, ml_109, ml_110, ml_111, ml_112, ml_113, ml_114, ml_115, ml_120, ml_127, ml_176, ml_180, ml_200, ml_254, ml_255, ml_256, ml_300, ml_728, ml_832, ml_65536, cl, cn, h0]
        · rcases h3 with h3 | h3
          · exact absurd h3 h0
          · simp (discharger := omega) only [f_X7_faultOfBringing, nI_add, mt_mul, nI_clamp, nI_leI, nI_ltI, nI_eq, mt_in_t, mt_b1, mt_b2, mt_b3, mt_b4, mt_l, mt_g, ↓reduceIte, Nat.reduceEqDiff, Nat.reduceLeDiff, ml_0, ml_1, ml_2, ml_3, ml_4, ml_5, ml_6, ml_7, ml_8, ml_9, ml_10, ml_11, ml_12, ml_13, ml_14, ml_16, ml_31, ml_32, ml_40, ml_42, ml_48, ml_50, ml_57, ml_59, ml_60, ml_63, ml_98, ml_100, ml_103, ml_104, ml_105, ml_106, ml_107, ml_108, ml_109, ml_110, ml_111, ml_112, ml_113, ml_114, ml_115, ml_120, ml_127, ml_176, ml_180, ml_200, ml_254, ml_255, ml_256, ml_300, ml_728, ml_832, ml_65536, cl, cn, h0, h3]
      · have e : f_X10_in b x3 (nI 0) (nI 7) = some (nI 0) := mt_in_lit (n := 8) (by omega) h3
        simp (discharger := omega) only [f_X10_brings, nI_add, mt_mul, nI_clamp, nI_leI, nI_ltI, nI_eq, mt_in_t, mt_b1, mt_b2, mt_b3, mt_b4, mt_l, mt_g, ↓reduceIte, Nat.reduceEqDiff, Nat.reduceLeDiff, ml_0, ml_1, ml_2, ml_3, ml_4, ml_5, ml_6, ml_7, ml_8, ml_9, ml_10, ml_11, ml_12, ml_13, ml_14, ml_16, ml_31, ml_32, ml_40, ml_42, ml_48, ml_50, ml_57, ml_59, ml_60, ml_63, ml_98, ml_100, ml_103, ml_104, ml_105, ml_106, ml_107, ml_108, ml_109, ml_110, ml_111, ml_112, ml_113, ml_114, ml_115, ml_120, ml_127, ml_176, ml_180, ml_200, ml_254, ml_255, ml_256, ml_300, ml_728, ml_832, ml_65536, cl2, e]
  · right
    refine ⟨1, 1, Or.inl ⟨rfl, rfl⟩, ?_, fun s b hb => ?_⟩
    · by_cases h0 : x1 < nI 0
      · simp (discharger := omega) only [f_X7_faultOfBringing, f_X9_isClient, nI_add, mt_mul, nI_clamp, nI_leI, nI_ltI, nI_eq, mt_in_t, mt_b1, mt_b2, mt_b3, mt_b4, mt_l, mt_g, ↓reduceIte, Nat.reduceEqDiff, Nat.reduceLeDiff, ml_0, ml_1, ml_2, ml_3, ml_4, ml_5, ml_6, ml_7, ml_8, ml_9, ml_10, ml_11, ml_12, ml_13, ml_14, ml_16, ml_31, ml_32, ml_40, ml_42, ml_48, ml_50, ml_57, ml_59, ml_60, ml_63, ml_98, ml_100, ml_103, ml_104, ml_105, ml_106, ml_107, ml_108, ml_109, ml_110, ml_111, ml_112, ml_113, ml_114, ml_115, ml_120, ml_127, ml_176, ml_180, ml_200, ml_254, ml_255, ml_256, ml_300, ml_728, ml_832, ml_65536, h0]
      · rcases h1 with h1 | h1
        · exact absurd h1 h0
        · simp (discharger := omega) only [f_X7_faultOfBringing, f_X9_isClient, nI_add, mt_mul, nI_clamp, nI_leI, nI_ltI, nI_eq, mt_in_t, mt_b1, mt_b2, mt_b3, mt_b4, mt_l, mt_g, ↓reduceIte, Nat.reduceEqDiff, Nat.reduceLeDiff, ml_0, ml_1, ml_2, ml_3, ml_4, ml_5, ml_6, ml_7, ml_8, ml_9, ml_10, ml_11, ml_12, ml_13, ml_14, ml_16, ml_31, ml_32, ml_40, ml_42, ml_48, ml_50, ml_57, ml_59, ml_60, ml_63, ml_98, ml_100, ml_103, ml_104, ml_105, ml_106, ml_107, ml_108, ml_109, ml_110, ml_111, ml_112, ml_113, ml_114, ml_115, ml_120, ml_127, ml_176, ml_180, ml_200, ml_254, ml_255, ml_256, ml_300, ml_728, ml_832, ml_65536, h0, h1]
    · have e : f_X10_in b x1 (nI 0) (nI 3) = some (nI 0) := mt_in_lit (n := 4) (by omega) h1
      simp (discharger := omega) only [f_X10_brings, f_X10_isClient, nI_add, mt_mul, nI_clamp, nI_leI, nI_ltI, nI_eq, mt_in_t, mt_b1, mt_b2, mt_b3, mt_b4, mt_l, mt_g, ↓reduceIte, Nat.reduceEqDiff, Nat.reduceLeDiff, ml_0, ml_1, ml_2, ml_3, ml_4, ml_5, ml_6, ml_7, ml_8, ml_9, ml_10, ml_11, ml_12, ml_13, ml_14, ml_16, ml_31, ml_32, ml_40, ml_42, ml_48, ml_50, ml_57, ml_59, ml_60, ml_63, ml_98, ml_100, ml_103, ml_104, ml_105, ml_106, ml_107, ml_108, ml_109, ml_110, ml_111, ml_112, ml_113, ml_114, ml_115, ml_120, ml_127, ml_176, ml_180, ml_200, ml_254, ml_255, ml_256, ml_300, ml_728, ml_832, ml_65536, e, mt_bo]
theorem mr_brings {c s d t : Nat} (hc : c < 4) (hd : d < 8) (ht : t < 256) (hn : σ 0 < 16) : mt_op σ (ms_add σ c s d t) (σ 0) (fun m => f_X10_brings m (nI c) (nI s) (nI d) (nI t)) := by
  intro b hM
  have rn := mt_at hM (i := 0) (by decide)
  have n16 : ¬ σ 0 = 16 := by omega
  have z1 : ¬ c < 0 := by omega
  have z2 : ¬ 3 < c := by omega
  have d1 : ¬ d < 0 := by omega
  have d3 : ¬ 7 < d := by omega
  have t1 : ¬ t < 0 := by omega
  have t3 : ¬ 255 < t := by omega
  refine ⟨fw_u (fw_u (fw_u (fw_u (fw_u (fw_u (fw_u (fw_u b 0 19 (4 + 6 * σ 0 + 0) (nI c)) 0 19 (4 + 6 * σ 0 + 1) (nI s)) 0 19 (4 + 6 * σ 0 + 2) (nI d)) 0 19 (4 + 6 * σ 0 + 3) (nI t)) 0 19 (4 + 6 * σ 0 + 4) (nI 0)) 0 19 (4 + 6 * σ 0 + 5) (nI 0)) 0 19 0 (nI (σ 0 + 1))) 0 18 15 (nI (σ 0)), ?_, ?_, ?_, mt_uy rfl, fun i hi => ?_⟩
  · simp (discharger := omega) only [f_X10_brings, f_X10_isClient, f_X10_in, f_X10_done, mr_sets, nI_add, mt_mul, nI_clamp, nI_leI, nI_ltI, nI_eq, mt_in_t, mt_b1, mt_b2, mt_b3, mt_b4, mt_l, mt_g, ↓reduceIte, Nat.reduceEqDiff, Nat.reduceLeDiff, ml_0, ml_1, ml_2, ml_3, ml_4, ml_5, ml_6, ml_7, ml_8, ml_9, ml_10, ml_11, ml_12, ml_13, ml_14, ml_16, ml_31, ml_32, ml_40, ml_42, ml_48, ml_50, ml_57, ml_59, ml_60, ml_63, ml_98, ml_100, ml_103, ml_104, ml_105, ml_106, ml_107, ml_108, ml_109, ml_110, ml_111, ml_112, ml_113, ml_114, ml_115, ml_120, ml_127, ml_176, ml_180, ml_200, ml_254, ml_255, ml_256, ml_300, ml_728, ml_832, ml_65536, rn, n16, z1, z2, d1, d3, t1, t3, mt_bo]
  · exact mt_M_k (mt_M_u0 (mt_M_u0 (mt_M_u0 (mt_M_u0 (mt_M_u0 (mt_M_u0 (mt_M_u0 hM))))))) (fw_u_o (by omega))
  · exact mt_fr_a (mt_fr_a (mt_fr_a (mt_fr_a (mt_fr_a (mt_fr_a (mt_fr_a (mt_fr_a mt_fr_r (by decide)) (by decide)) (by decide)) (by decide)) (by decide)) (by decide)) (by decide)) (by decide)
  · rw [mt_un (by omega), mt_un (by omega), mt_un (by omega), mt_un (by omega), mt_un (by omega), mt_un (by omega), mt_un (by omega), mt_un (by omega)]
def mt_eb (k t : Nat) : Prop := (k = 1 ∧ t = 1) ∨ (k = 2 ∧ t = 2) ∨ (k = 3 ∧ t = 3)
theorem mr_bring_e {s : Nat} (hs : s < 2) (x1 x3 x4 : Int32) (m : fw_M) : f_X10_bring m x1 (nI s) x3 x4 = f_commit (fun m1 => f_X10_brings m1 x1 (nI s) x3 x4) m := by
  have hc : s = 0 ∨ s = 1 := by omega
  rcases hc with rfl | rfl <;> simp (discharger := omega) only [f_X10_bring, f_commit, nI_add, mt_mul, nI_clamp, nI_leI, nI_ltI, nI_eq, mt_in_t, mt_b1, mt_b2, mt_b3, mt_b4, mt_l, mt_g, ↓reduceIte, Nat.reduceEqDiff, Nat.reduceLeDiff, ml_0, ml_1, ml_2, ml_3, ml_4, ml_5, ml_6, ml_7, ml_8, ml_9, ml_10, ml_11, ml_12, ml_13, ml_14, ml_16, ml_31, ml_32, ml_40, ml_42, ml_48, ml_50, ml_57, ml_59, ml_60, ml_63, ml_98, ml_100, ml_103, ml_104, ml_105, ml_106, ml_107, ml_108, ml_109, ml_110, ml_111, ml_112, ml_113, ml_114, ml_115, ml_120, ml_127, ml_176, ml_180, ml_200, ml_254, ml_255, ml_256, ml_300, ml_728, ml_832, ml_65536]
theorem pc_bring (hR : mt_R B μ) {s : Nat} (hs : s < 2) (x1 x3 x4 : Int32) : mt_A B Eq mt_eb (f_X9_bring μ x1 (nI s) x3 x4) (fun m => f_X10_bring m x1 (nI s) x3 x4) := by
  obtain ⟨⟨σ, hS⟩, ⟨k, h, hk8, hHC, hHM, hHo⟩, hrest⟩ := id hR
  obtain ⟨hC, hM, hok⟩ := id hS
  rcases mt_bringArgs μ hC hok.1.1 x1 x3 x4 with ⟨c, d, t, hc, hd, ht, hn, rfl, rfl, rfl, e0⟩ | ⟨r, t, hrt, e0, e1⟩
  · obtain ⟨a1, e1, HC1, F1⟩ := mc_remember hHC hk8 hC hok.1
    have C1 : mt_C a1 0 σ := mt_C_k hC (fun f hf => F1 0 f (by omega))
    obtain ⟨a2, e2, C2, F2⟩ := mc_addGarment (c := c) (s := s) (d := d) (t := t) C1 hn hs
    obtain ⟨μ2, e3, t3, R3⟩ := mt_commit hR hk8 hHM hHo hS HC1 F1 C2 F2 (Nat.le_refl B) (ms_add_ok hok hn hc hs hd ht) (mr_brings (s := s) hc hd ht hn)
    refine ⟨a2, nI (σ 0), 0, μ2, nI (σ 0), 0, ?_, ?_, t3, R3, Or.inl ⟨rfl, rfl, rfl⟩⟩
    · simp (discharger := omega) only [f_X9_bring, f_X9_raise, nI_add, mt_mul, nI_clamp, nI_leI, nI_ltI, nI_eq, mt_in_t, mt_b1, mt_b2, mt_b3, mt_b4, mt_l, mt_g, ↓reduceIte, Nat.reduceEqDiff, Nat.reduceLeDiff, ml_0, ml_1, ml_2, ml_3, ml_4, ml_5, ml_6, ml_7, ml_8, ml_9, ml_10, ml_11, ml_12, ml_13, ml_14, ml_16, ml_31, ml_32, ml_40, ml_42, ml_48, ml_50, ml_57, ml_59, ml_60, ml_63, ml_98, ml_100, ml_103, ml_104, ml_105, ml_106, ml_107, ml_108, ml_109, ml_110, ml_111, ml_112, ml_113, ml_114, ml_115, ml_120, ml_127, ml_176, ml_180, ml_200, ml_254, ml_255, ml_256, ml_300, ml_728, ml_832, ml_65536, e0, e1, e2]
    · show f_X10_bring a2 (nI c) (nI s) (nI d) (nI t) = _
      rw [mr_bring_e hs]
      exact e3
  · have ht0 : t ≠ 0 ∧ t < 100 := by omega
    obtain ⟨μ2, e3, t3, R3⟩ := mt_refuse (σ := σ) (R := fun m1 => f_X10_brings m1 x1 (nI s) x3 x4) hR hM ht0.1 ht0.2 (fun b hb => e1 _ b hb)
    have hk : ∃ k, f_X9_raise μ (nI r) = some (μ, (), k) ∧ k ≠ 0 ∧ mt_eb k t := by
      rcases hrt with ⟨rfl, rfl⟩ | ⟨rfl, rfl⟩ | ⟨rfl, rfl⟩
      · exact ⟨1, by simp (discharger := omega) only [f_X9_raise, nI_add, mt_mul, nI_clamp, nI_leI, nI_ltI, nI_eq, mt_in_t, mt_b1, mt_b2, mt_b3, mt_b4, mt_l, mt_g, ↓reduceIte, Nat.reduceEqDiff, Nat.reduceLeDiff, ml_0, ml_1, ml_2, ml_3, ml_4, ml_5, ml_6, ml_7, ml_8, ml_9, ml_10, ml_11, ml_12, ml_13, ml_14, ml_16, ml_31, ml_32, ml_40, ml_42, ml_48, ml_50, ml_57, ml_59, ml_60, ml_63, ml_98, ml_100, ml_103, ml_104, ml_105, ml_106, ml_107, ml_108, ml_109, ml_110, ml_111, ml_112, ml_113, ml_114, ml_115, ml_120, ml_127, ml_176, ml_180, ml_200, ml_254, ml_255, ml_256, ml_300, ml_728, ml_832, ml_65536], by decide, Or.inl ⟨rfl, rfl⟩⟩
      · exact ⟨2, by simp (discharger := omega) only [f_X9_raise, nI_add, mt_mul, nI_clamp, nI_leI, nI_ltI, nI_eq, mt_in_t, mt_b1, mt_b2, mt_b3, mt_b4, mt_l, mt_g, ↓reduceIte, Nat.reduceEqDiff, Nat.reduceLeDiff, ml_0, ml_1, ml_2, ml_3, ml_4, ml_5, ml_6, ml_7, ml_8, ml_9, ml_10, ml_11, ml_12, ml_13, ml_14, ml_16, ml_31, ml_32, ml_40, ml_42, ml_48, ml_50, ml_57, ml_59, ml_60, ml_63, ml_98, ml_100, ml_103, ml_104, ml_105, ml_106, ml_107, ml_108, ml_109, ml_110, ml_111, ml_112, ml_113, ml_114, ml_115, ml_120, ml_127, ml_176, ml_180, ml_200, ml_254, ml_255, ml_256, ml_300, ml_728, ml_832, ml_65536], by decide, Or.inr (Or.inl ⟨rfl, rfl⟩)⟩
      · exact ⟨3, by simp (discharger := omega) only [f_X9_raise, nI_add, mt_mul, nI_clamp, nI_leI, nI_ltI, nI_eq, mt_in_t, mt_b1, mt_b2, mt_b3, mt_b4, mt_l, mt_g, ↓reduceIte, Nat.reduceEqDiff, Nat.reduceLeDiff, ml_0, ml_1, ml_2, ml_3, ml_4, ml_5, ml_6, ml_7, ml_8, ml_9, ml_10, ml_11, ml_12, ml_13, ml_14, ml_16, ml_31, ml_32, ml_40, ml_42, ml_48, ml_50, ml_57, ml_59, ml_60, ml_63, ml_98, ml_100, ml_103, ml_104, ml_105, ml_106, ml_107, ml_108, ml_109, ml_110, ml_111, ml_112, ml_113, ml_114, ml_115, ml_120, ml_127, ml_176, ml_180, ml_200, ml_254, ml_255, ml_256, ml_300, ml_728, ml_832, ml_65536], by decide, Or.inr (Or.inr ⟨rfl, rfl⟩)⟩
    obtain ⟨kk, e4, hk0, hke⟩ := hk
    refine ⟨μ, nI 0, kk, μ2, nI 0, t, ?_, ?_, t3, R3, Or.inr hke⟩
    · simp (discharger := omega) only [f_X9_bring, nI_add, mt_mul, nI_clamp, nI_leI, nI_ltI, nI_eq, mt_in_t, mt_b1, mt_b2, mt_b3, mt_b4, mt_l, mt_g, ↓reduceIte, Nat.reduceEqDiff, Nat.reduceLeDiff, ml_0, ml_1, ml_2, ml_3, ml_4, ml_5, ml_6, ml_7, ml_8, ml_9, ml_10, ml_11, ml_12, ml_13, ml_14, ml_16, ml_31, ml_32, ml_40, ml_42, ml_48, ml_50, ml_57, ml_59, ml_60, ml_63, ml_98, ml_100, ml_103, ml_104, ml_105, ml_106, ml_107, ml_108, ml_109, ml_110, ml_111, ml_112, ml_113, ml_114, ml_115, ml_120, ml_127, ml_176, ml_180, ml_200, ml_254, ml_255, ml_256, ml_300, ml_728, ml_832, ml_65536, e0, e4, hk0]
    · show f_X10_bring μ x1 (nI s) x3 x4 = _
      rw [mr_bring_e hs]
      exact e3
end PB
