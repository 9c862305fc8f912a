/-! the mathematics, 9: a run, on both sides -/
theorem mf_ut (s : UInt32) : (nI s.toNat).toUInt32 = s := by
  show UInt32.ofNat s.toNat = s
  exact UInt32.ofNat_toNat
section MY
variable {μ : fw_M} {σ : Nat → Nat} {B : Nat}
def mt_Wq (σ : Nat → Nat) (m : Nat) (μ : fw_M) (r : Option (fw_M × Int32)) : Prop := ∃ a, r = some (a, nI 0) ∧ mt_M a 19 0 (ms_wash σ m) ∧ mt_fr mt_sW μ a ∧ a 0 18 15 = nI (mt_sm (ms_lc σ m) (σ 0)) ∧ ∀ i, i ≠ 15 → a 0 18 i = μ 0 18 i
theorem mt_Wq_t {m : Nat} {b : fw_M} {r : Option (fw_M × Int32)} (h : mt_Wq σ m b r) (hb : ∀ j f, ¬ (j = 0 ∧ (f = 19 ∨ f = 26)) → b j f = μ j f) : mt_Wq σ m μ r := by
  obtain ⟨a, h1, h2, h3, h4, h5⟩ := h
  refine ⟨a, h1, h2, fun j f q => ?_, h4, fun i hi => by rw [h5 i hi, hb 0 18 (by omega)]⟩
  rw [h3 j f q]
  refine hb j f (fun z => ?_)
  have h6 : mt_sW j f = true := decide_eq_true ⟨z.1, by omega⟩
  rw [h6] at q
  cases q
theorem ms_ws_z {m k : Nat} (hk : k < 100) : ms_ws σ m 0 k = σ k := by
  unfold ms_ws
  by_cases h1 : k = 1
  · rw [if_pos h1, h1]
  · rw [if_neg h1, if_neg (by omega), if_neg (by omega)]
theorem mr_wash3 {m : Nat} (hM : mt_M μ 19 0 (ms_ws σ m 0)) (hok : mt_k σ) (hm : m < 2) (hh : σ (2 + m) < 1000) : mt_Wq σ m μ (f_X10_washesAll_L131 1000 μ (nI m) (nI (σ (2 + m))) (nI 0) (nI 0)) := by
  have h16 := hok.1
  have hz : ∀ k, k < 100 → ms_ws σ m 0 k = σ k := fun k hk => ms_ws_z hk
  have hz1 : ∀ k, k < 100 → k ≠ 1 → ms_ws σ m 0 k = σ k := fun k hk _ => ms_ws_z hk
  have hok' := mt_k_c hz1 hok
  have z0 := hz 0 (by decide)
  refine mt_while (L := fun n (a : fw_M) i => f_X10_washesAll_L131 n a (nI m) (nI (σ (2 + m))) (nI 0) i) (I := fun i a => (∀ j f, ¬ (j = 0 ∧ f = 26) → a j f = μ j f) ∧ ∀ q, q < i → a 0 26 q = nI (if σ (4 + 6 * q + 4) = m + 1 then (if ms_lo σ m (σ (2 + m)) q then 256 else ms_sd σ m (σ (2 + m)) q) else 4294967295)) (P := fun r => mt_Wq σ m μ r) (N := σ 0) ?_ ?_ (σ 0) 1000 μ 0 (by omega) (by omega) ⟨fun _ _ _ => rfl, fun q hq => absurd hq (Nat.not_lt_zero q)⟩
  · intro n a h
    have hMa : mt_M a 19 0 (ms_ws σ m 0) := mt_M_k hM (h.1 0 19 (by decide))
    have e0 := mt_at hMa (i := 0) (by decide)
    rw [z0] at e0
    have k := mt_Wq_t (μ := μ) (mr_wash4 hMa hok h.2) (fun j f q => h.1 j f (by omega))
    simp (discharger := omega) only [f_X10_washesAll_L131, nI_add, mt_mul, nI_clamp, nI_leI, nI_ltI, nI_eq, mt_in_t, mt_b1, mt_b2, mt_b3, mt_b4, mt_l, mt_g, ↓reduceIte, Nat.reduceEqDiff, Nat.reduceLeDiff, ml_0, ml_1, ml_2, ml_3, ml_4, ml_5, ml_6, ml_7, ml_8, ml_9, ml_10, ml_11, ml_12, ml_13, ml_14, ml_16, ml_31, ml_32, ml_40, ml_42, ml_48, ml_50, ml_57, ml_59, ml_60, ml_63, ml_98, ml_100, ml_103, ml_104, ml_105, ml_106, ml_107, ml_108, ml_109, ml_110, ml_111, ml_112, ml_113, ml_114, ml_115, ml_120, ml_127, ml_176, ml_180, ml_200, ml_254, ml_255, ml_256, ml_300, ml_728, ml_832, ml_65536, e0, Nat.le_refl]
    exact k
  · intro n a i hi h
    have hMa : mt_M a 19 0 (ms_ws σ m 0) := mt_M_k hM (h.1 0 19 (by decide))
    have e0 := mt_at hMa (i := 0) (by decide)
    rw [z0] at e0
    have hig : i < ms_ws σ m 0 0 := by rw [z0]; exact hi
    have e := mr_isInside hMa hok' hig hm
    rw [hz (4 + 6 * i + 4) (by omega)] at e
    have hi' : ¬ σ 0 ≤ i := by omega
    left
    have inv : ∀ v, v = (if σ (4 + 6 * i + 4) = m + 1 then (if ms_lo σ m (σ (2 + m)) i then 256 else ms_sd σ m (σ (2 + m)) i) else 4294967295) → (∀ j f, ¬ (j = 0 ∧ f = 26) → fw_u a 0 26 i (nI v) j f = μ j f) ∧ ∀ q, q < i + 1 → fw_u a 0 26 i (nI v) 0 26 q = nI (if σ (4 + 6 * q + 4) = m + 1 then (if ms_lo σ m (σ (2 + m)) q then 256 else ms_sd σ m (σ (2 + m)) q) else 4294967295) := by
      intro v hv
      refine ⟨fun j f q => by rw [fw_u_o q]; exact h.1 j f q, fun q hq => ?_⟩
      by_cases hqi : q = i
      · rw [mt_uy hqi, hqi, hv]
      · rw [mt_un (by omega)]
        exact h.2 q (by omega)
    by_cases q1 : σ (4 + 6 * i + 4) = m + 1
    · have q1' : ms_ws σ m 0 (4 + 6 * i + 4) = m + 1 := by rw [hz _ (by omega)]; exact q1
      have e3 := mr_isLost hMa hok' hig q1' hm hh
      by_cases q2 : ms_lo σ m (σ (2 + m)) i
      · rw [if_pos ((ms_lo_c hz1 h16 m _ (by omega)).mpr q2)] at e3
        refine ⟨_, inv 256 (by rw [if_pos q1, if_pos q2]), ?_⟩
        simp (discharger := omega) only [f_X10_washesAll_L131, nI_add, mt_mul, nI_clamp, nI_leI, nI_ltI, nI_eq, mt_in_t, mt_b1, mt_b2, mt_b3, mt_b4, mt_l, mt_g, ↓reduceIte, Nat.reduceEqDiff, Nat.reduceLeDiff, ml_0, ml_1, ml_2, ml_3, ml_4, ml_5, ml_6, ml_7, ml_8, ml_9, ml_10, ml_11, ml_12, ml_13, ml_14, ml_16, ml_31, ml_32, ml_40, ml_42, ml_48, ml_50, ml_57, ml_59, ml_60, ml_63, ml_98, ml_100, ml_103, ml_104, ml_105, ml_106, ml_107, ml_108, ml_109, ml_110, ml_111, ml_112, ml_113, ml_114, ml_115, ml_120, ml_127, ml_176, ml_180, ml_200, ml_254, ml_255, ml_256, ml_300, ml_728, ml_832, ml_65536, e0, e, e3, hi', q1]
      · rw [if_neg (fun z => q2 ((ms_lo_c hz1 h16 m _ (by omega)).mp z))] at e3
        have e4 := mr_stained hMa hok' hig q1' hm hh
        rw [ms_sd_c hz1 h16 m _ (by omega)] at e4
        refine ⟨_, inv _ (by rw [if_pos q1, if_neg q2]), ?_⟩
        simp (discharger := omega) only [f_X10_washesAll_L131, nI_add, mt_mul, nI_clamp, nI_leI, nI_ltI, nI_eq, mt_in_t, mt_b1, mt_b2, mt_b3, mt_b4, mt_l, mt_g, ↓reduceIte, Nat.reduceEqDiff, Nat.reduceLeDiff, ml_0, ml_1, ml_2, ml_3, ml_4, ml_5, ml_6, ml_7, ml_8, ml_9, ml_10, ml_11, ml_12, ml_13, ml_14, ml_16, ml_31, ml_32, ml_40, ml_42, ml_48, ml_50, ml_57, ml_59, ml_60, ml_63, ml_98, ml_100, ml_103, ml_104, ml_105, ml_106, ml_107, ml_108, ml_109, ml_110, ml_111, ml_112, ml_113, ml_114, ml_115, ml_120, ml_127, ml_176, ml_180, ml_200, ml_254, ml_255, ml_256, ml_300, ml_728, ml_832, ml_65536, e0, e, e3, e4, hi', q1]
    · refine ⟨_, inv 4294967295 (by rw [if_neg q1]), ?_⟩
      simp (discharger := omega) only [f_X10_washesAll_L131, nI_add, mt_mul, nI_clamp, nI_leI, nI_ltI, nI_eq, mt_in_t, mt_b1, mt_b2, mt_b3, mt_b4, mt_l, mt_g, ↓reduceIte, Nat.reduceEqDiff, Nat.reduceLeDiff, ml_0, ml_1, ml_2, ml_3, ml_4, ml_5, ml_6, ml_7, ml_8, ml_9, ml_10, ml_11, ml_12, ml_13, ml_14, ml_16, ml_31, ml_32, ml_40, ml_42, ml_48, ml_50, ml_57, ml_59, ml_60, ml_63, ml_98, ml_100, ml_103, ml_104, ml_105, ml_106, ml_107, ml_108, ml_109, ml_110, ml_111, ml_112, ml_113, ml_114, ml_115, ml_120, ml_127, ml_176, ml_180, ml_200, ml_254, ml_255, ml_256, ml_300, ml_728, ml_832, ml_65536, e0, e, hi', q1, ml_m1]
theorem mr_wash2 {m : Nat} (hM : mt_M μ 19 0 σ) (hok : mt_k σ) (hm : m < 2) (hh : σ (2 + m) < 1000) (ha : ∀ c, c < 4 → μ 0 26 c = nI (ms_pd σ m c)) : mt_Wq σ m μ (f_X10_washesAll_L99 1000 μ (nI m) (nI (σ (2 + m))) (nI 0) (nI 0)) := by
  refine mt_while (L := fun n (a : fw_M) i => f_X10_washesAll_L99 n a (nI m) (nI (σ (2 + m))) (nI 0) i) (I := fun i a => (∀ j f, ¬ (j = 0 ∧ f = 19) → a j f = μ j f) ∧ mt_M a 19 0 (ms_sp σ (ms_pd σ m) i)) (P := fun r => mt_Wq σ m μ r) (N := 4) ?_ ?_ 4 1000 μ 0 (by omega) (by omega) ⟨fun _ _ _ => rfl, mt_M_e hM (fun i hi => by unfold ms_sp; rw [if_neg (by omega)])⟩
  · intro n a h
    have hMa : mt_M a 19 0 (ms_ws σ m 0) := mt_M_e h.2 (fun i hi => by
      unfold ms_sp ms_ws
      by_cases h1 : i = 1
      · rw [if_neg (by omega), if_pos h1, h1]
      · by_cases h2 : 100 ≤ i ∧ i < 104
        · rw [if_pos (by omega), if_neg h1, if_pos h2]
        · rw [if_neg (by omega), if_neg h1, if_neg h2, if_neg (by omega)])
    have k := mt_Wq_t (μ := μ) (mr_wash3 hMa hok hm hh) (fun j f q => h.1 j f (by omega))
    simp (discharger := omega) only [f_X10_washesAll_L99, nI_add, mt_mul, nI_clamp, nI_leI, nI_ltI, nI_eq, mt_in_t, mt_b1, mt_b2, mt_b3, mt_b4, mt_l, mt_g, ↓reduceIte, Nat.reduceEqDiff, Nat.reduceLeDiff, ml_0, ml_1, ml_2, ml_3, ml_4, ml_5, ml_6, ml_7, ml_8, ml_9, ml_10, ml_11, ml_12, ml_13, ml_14, ml_16, ml_31, ml_32, ml_40, ml_42, ml_48, ml_50, ml_57, ml_59, ml_60, ml_63, ml_98, ml_100, ml_103, ml_104, ml_105, ml_106, ml_107, ml_108, ml_109, ml_110, ml_111, ml_112, ml_113, ml_114, ml_115, ml_120, ml_127, ml_176, ml_180, ml_200, ml_254, ml_255, ml_256, ml_300, ml_728, ml_832, ml_65536, Nat.le_refl]
    exact k
  · intro n a i hi h
    have e : a 0 26 i = nI (ms_pd σ m i) := by rw [h.1 0 26 (by decide)]; exact ha i hi
    have hi' : ¬ 4 ≤ i := by omega
    left
    refine ⟨fw_u a 0 19 (100 + i) (nI (ms_pd σ m i)), ⟨fun j f q => by rw [fw_u_o q]; exact h.1 j f q, ?_⟩, ?_⟩
    · refine mt_M_e (mt_M_u0 (k := 100 + i) (v := ms_pd σ m i) h.2) (fun k hk => ?_)
      unfold ms_up ms_sp
      by_cases h1 : k = 100 + i
      · rw [if_pos h1, if_pos (by omega)]
        congr 1
        omega
      · rw [if_neg h1]
        by_cases h2 : 100 ≤ k ∧ k < 100 + i
        · rw [if_pos h2, if_pos (by omega)]
        · rw [if_neg h2, if_neg (by omega)]
    · simp (discharger := omega) only [f_X10_washesAll_L99, nI_add, mt_mul, nI_clamp, nI_leI, nI_ltI, nI_eq, mt_in_t, mt_b1, mt_b2, mt_b3, mt_b4, mt_l, mt_g, ↓reduceIte, Nat.reduceEqDiff, Nat.reduceLeDiff, ml_0, ml_1, ml_2, ml_3, ml_4, ml_5, ml_6, ml_7, ml_8, ml_9, ml_10, ml_11, ml_12, ml_13, ml_14, ml_16, ml_31, ml_32, ml_40, ml_42, ml_48, ml_50, ml_57, ml_59, ml_60, ml_63, ml_98, ml_100, ml_103, ml_104, ml_105, ml_106, ml_107, ml_108, ml_109, ml_110, ml_111, ml_112, ml_113, ml_114, ml_115, ml_120, ml_127, ml_176, ml_180, ml_200, ml_254, ml_255, ml_256, ml_300, ml_728, ml_832, ml_65536, e, hi']
theorem mr_wash1 {m : Nat} (hM : mt_M μ 19 0 σ) (hok : mt_ok B σ) (hB : B < 131072) (hm : m < 2) : mt_Wq σ m μ (f_X10_washesAll_L33 1000 μ (nI m) (nI (σ (2 + m))) (nI 0) (nI 0)) := by
  have h5 := hok.2.2.2.1 m hm
  have hh := hok.2.2.1 m hm
  refine mt_while (L := fun n (a : fw_M) i => f_X10_washesAll_L33 n a (nI m) (nI (σ (2 + m))) (nI 0) i) (I := fun i a => (∀ j f, ¬ (j = 0 ∧ f = 26) → a j f = μ j f) ∧ ∀ c, c < i → a 0 26 c = nI (ms_pd σ m c)) (P := fun r => mt_Wq σ m μ r) (N := 4) ?_ ?_ 4 1000 μ 0 (by omega) (by omega) ⟨fun _ _ _ => rfl, fun q hq => absurd hq (Nat.not_lt_zero q)⟩
  · intro n a h
    have hMa : mt_M a 19 0 σ := mt_M_k hM (h.1 0 19 (by decide))
    have k := mt_Wq_t (μ := μ) (mr_wash2 hMa hok.1 hm (by omega) h.2) (fun j f q => h.1 j f (by omega))
    simp (discharger := omega) only [f_X10_washesAll_L33, nI_add, mt_mul, nI_clamp, nI_leI, nI_ltI, nI_eq, mt_in_t, mt_b1, mt_b2, mt_b3, mt_b4, mt_l, mt_g, ↓reduceIte, Nat.reduceEqDiff, Nat.reduceLeDiff, ml_0, ml_1, ml_2, ml_3, ml_4, ml_5, ml_6, ml_7, ml_8, ml_9, ml_10, ml_11, ml_12, ml_13, ml_14, ml_16, ml_31, ml_32, ml_40, ml_42, ml_48, ml_50, ml_57, ml_59, ml_60, ml_63, ml_98, ml_100, ml_103, ml_104, ml_105, ml_106, ml_107, ml_108, ml_109, ml_110, ml_111, ml_112, ml_113, ml_114, ml_115, ml_120, ml_127, ml_176, ml_180, ml_200, ml_254, ml_255, ml_256, ml_300, ml_728, ml_832, ml_65536, Nat.le_refl]
    exact k
  · intro n a i hi h
    have hMa : mt_M a 19 0 σ := mt_M_k hM (h.1 0 19 (by decide))
    have hF := hok.2.2.2.2 i hi
    have e1 := mr_sumOf hMa hi hF
    have e2 := mr_cost hMa hok.1 hm hi h5 hh.1 (by omega)
    have e3 := mr_heldOf hMa hok.1 hm hi
    have e4 := mt_at hMa (i := 100 + i) (by omega)
    have hx := ms_ho_lt hok.1 m i
    have hi' : ¬ 4 ≤ i := by omega
    have inv : ∀ v, v = ms_pd σ m i → (∀ j f, ¬ (j = 0 ∧ f = 26) → fw_u a 0 26 i (nI v) j f = μ j f) ∧ ∀ q, q < i + 1 → fw_u a 0 26 i (nI v) 0 26 q = nI (ms_pd σ m q) := by
      intro v hv
      refine ⟨fun j f q => by rw [fw_u_o q]; exact h.1 j f q, fun q hq => ?_⟩
      by_cases hqi : q = i
      · rw [mt_uy hqi, hqi, hv]
      · rw [mt_un (by omega)]
        exact h.2 q (by omega)
    left
    by_cases h0 : 0 < ms_ho σ m i
    · have hn : ¬ ms_ho σ m i ≤ 0 := by omega
      obtain ⟨g1, g2⟩ := mf_add hF (by have := hok.2.1; omega) (ms_costP hok hm hi) (ms_cost1 hok hm hi h0)
      have e5 := mf_itb (μ := a) g2
      rw [mf_ut] at e5
      refine ⟨_, inv (FP.fadd (nI (σ (100 + i))).toUInt32 (ms_cost (σ (2 + m)) (ms_ho σ m i) (ms_pn σ m))).toNat (by unfold ms_pd; rw [if_pos h0]), ?_⟩
      simp (discharger := omega) only [f_X10_washesAll_L33, nI_add, mt_mul, nI_clamp, nI_leI, nI_ltI, nI_eq, mt_in_t, mt_b1, mt_b2, mt_b3, mt_b4, mt_l, mt_g, ↓reduceIte, Nat.reduceEqDiff, Nat.reduceLeDiff, ml_0, ml_1, ml_2, ml_3, ml_4, ml_5, ml_6, ml_7, ml_8, ml_9, ml_10, ml_11, ml_12, ml_13, ml_14, ml_16, ml_31, ml_32, ml_40, ml_42, ml_48, ml_50, ml_57, ml_59, ml_60, ml_63, ml_98, ml_100, ml_103, ml_104, ml_105, ml_106, ml_107, ml_108, ml_109, ml_110, ml_111, ml_112, ml_113, ml_114, ml_115, ml_120, ml_127, ml_176, ml_180, ml_200, ml_254, ml_255, ml_256, ml_300, ml_728, ml_832, ml_65536, e1, e2, e3, e4, e5, hi', hn, g1]
    · have hn : ms_ho σ m i ≤ 0 := by omega
      have hz : ms_ho σ m i = 0 := by omega
      have g1 : fw_f32 (FP.fadd (nI (σ (100 + i))).toUInt32 (ms_cost (σ (2 + m)) (ms_ho σ m i) (ms_pn σ m))) = true := by
        have : ms_cost (σ (2 + m)) (ms_ho σ m i) (ms_pn σ m) = FP.fconst0 := by unfold ms_cost; rw [if_pos hz]
        rw [this, mf_add0 hF]
        exact (mf_f2d hF).1
      refine ⟨_, inv (σ (100 + i)) (by unfold ms_pd; rw [if_neg h0]), ?_⟩
      simp (discharger := omega) only [f_X10_washesAll_L33, nI_add, mt_mul, nI_clamp, nI_leI, nI_ltI, nI_eq, mt_in_t, mt_b1, mt_b2, mt_b3, mt_b4, mt_l, mt_g, ↓reduceIte, Nat.reduceEqDiff, Nat.reduceLeDiff, ml_0, ml_1, ml_2, ml_3, ml_4, ml_5, ml_6, ml_7, ml_8, ml_9, ml_10, ml_11, ml_12, ml_13, ml_14, ml_16, ml_31, ml_32, ml_40, ml_42, ml_48, ml_50, ml_57, ml_59, ml_60, ml_63, ml_98, ml_100, ml_103, ml_104, ml_105, ml_106, ml_107, ml_108, ml_109, ml_110, ml_111, ml_112, ml_113, ml_114, ml_115, ml_120, ml_127, ml_176, ml_180, ml_200, ml_254, ml_255, ml_256, ml_300, ml_728, ml_832, ml_65536, e1, e2, e3, e4, hi', hn, g1]
theorem mr_isMachine {m : Nat} (hm : m < 2) : f_X10_isMachine μ (nI m) = some (nI 1) := by
  have h1 : ¬ m < 0 := by omega
  have h2 : ¬ 1 < m := by omega
  simp (discharger := omega) only [f_X10_isMachine, f_X10_in, nI_add, mt_mul, nI_clamp, nI_leI, nI_ltI, nI_eq, mt_in_t, mt_b1, mt_b2, mt_b3, mt_b4, mt_l, mt_g, ↓reduceIte, Nat.reduceEqDiff, Nat.reduceLeDiff, ml_0, ml_1, ml_2, ml_3, ml_4, ml_5, ml_6, ml_7, ml_8, ml_9, ml_10, ml_11, ml_12, ml_13, ml_14, ml_16, ml_31, ml_32, ml_40, ml_42, ml_48, ml_50, ml_57, ml_59, ml_60, ml_63, ml_98, ml_100, ml_103, ml_104, ml_105, ml_106, ml_107, ml_108, ml_109, ml_110, ml_111, ml_112, ml_113, ml_114, ml_115, ml_120, ml_127, ml_176, ml_180, ml_200, ml_254, ml_255, ml_256, ml_300, ml_728, ml_832, ml_65536, h1, h2, mt_bo]
theorem mr_washesAll {m : Nat} (hM : mt_M μ 19 0 σ) (hok : mt_ok B σ) (hB : B < 131072) (hm : m < 2) (hn : ms_held σ m ≠ 0) : mt_Wq σ m μ (f_X10_washesAll μ (nI m)) := by
  have k := mr_wash1 hM hok hB hm
  have e1 := mr_isMachine (μ := μ) hm
  have e2 := mr_held hM hok.1 hm
  have e3 := mt_at hM (i := 2 + m) (by omega)
  have hb := ms_held_lt hok.1 m
  simp (discharger := omega) only [f_X10_washesAll, nI_add, mt_mul, nI_clamp, nI_leI, nI_ltI, nI_eq, mt_in_t, mt_b1, mt_b2, mt_b3, mt_b4, mt_l, mt_g, ↓reduceIte, Nat.reduceEqDiff, Nat.reduceLeDiff, ml_0, ml_1, ml_2, ml_3, ml_4, ml_5, ml_6, ml_7, ml_8, ml_9, ml_10, ml_11, ml_12, ml_13, ml_14, ml_16, ml_31, ml_32, ml_40, ml_42, ml_48, ml_50, ml_57, ml_59, ml_60, ml_63, ml_98, ml_100, ml_103, ml_104, ml_105, ml_106, ml_107, ml_108, ml_109, ml_110, ml_111, ml_112, ml_113, ml_114, ml_115, ml_120, ml_127, ml_176, ml_180, ml_200, ml_254, ml_255, ml_256, ml_300, ml_728, ml_832, ml_65536, e1, e2, e3, hn]
  exact k
/-! the class's run -/
theorem mc_charge {j m : Nat} (hC : mt_C μ j σ) (hok : mt_ok B σ) (hB : B < 131072) (hm : m < 2) : ∃ a, f_X7_charge μ j (nI m) = some (a, ()) ∧ (∀ j' f', ¬ (j' = j ∧ f' = 8) → a j' f' = μ j' f') ∧ ∀ c, c < 4 → a j 8 c = nI (ms_pd σ m c) := by
  have h5 := hok.2.2.2.1 m hm
  have hh := hok.2.2.1 m hm
  unfold f_X7_charge
  refine mt_while (L := fun n (a : fw_M) i => f_X7_charge_L2 j n a (nI m) i) (I := fun i a => (∀ j' f', ¬ (j' = j ∧ f' = 8) → a j' f' = μ j' f') ∧ ∀ c, c < 4 → a j 8 c = nI (if c < i then ms_pd σ m c else σ (100 + c))) (P := fun r => ∃ a, r = some (a, ()) ∧ (∀ j' f', ¬ (j' = j ∧ f' = 8) → a j' f' = μ j' f') ∧ ∀ c, c < 4 → a j 8 c = nI (ms_pd σ m c)) (N := 4) ?_ ?_ 4 1000 μ 0 (by omega) (by omega) ⟨fun _ _ _ => rfl, fun c hc => by rw [if_neg (Nat.not_lt_zero c)]; exact hC.2.2.2.1 c hc⟩
  · intro n a h
    refine ⟨a, ?_, h.1, fun c hc => by rw [h.2 c hc, if_pos hc]⟩
    simp (discharger := omega) only [f_X7_charge_L2, nI_add, mt_mul, nI_clamp, nI_leI, nI_ltI, nI_eq, mt_in_t, mt_b1, mt_b2, mt_b3, mt_b4, mt_l, mt_g, ↓reduceIte, Nat.reduceEqDiff, Nat.reduceLeDiff, ml_0, ml_1, ml_2, ml_3, ml_4, ml_5, ml_6, ml_7, ml_8, ml_9, ml_10, ml_11, ml_12, ml_13, ml_14, ml_16, ml_31, ml_32, ml_40, ml_42, ml_48, ml_50, ml_57, ml_59, ml_60, ml_63, ml_98, ml_100, ml_103, ml_104, ml_105, ml_106, ml_107, ml_108, ml_109, ml_110, ml_111, ml_112, ml_113, ml_114, ml_115, ml_120, ml_127, ml_176, ml_180, ml_200, ml_254, ml_255, ml_256, ml_300, ml_728, ml_832, ml_65536, Nat.le_refl]
  · intro n a i hi h
    have hF := hok.2.2.2.2 i hi
    have e2 := mc_cost (a := a) hC (fun f hf => h.1 j f (by omega)) hok.1 hm hi h5 hh.1 (by omega)
    have e1 := h.2 i hi
    rw [if_neg (Nat.lt_irrefl i)] at e1
    have hi' : ¬ 4 ≤ i := by omega
    have hs : fw_f32 (FP.fadd (nI (σ (100 + i))).toUInt32 (ms_cost (σ (2 + m)) (ms_ho σ m i) (ms_pn σ m))) = true ∧ (FP.fadd (nI (σ (100 + i))).toUInt32 (ms_cost (σ (2 + m)) (ms_ho σ m i) (ms_pn σ m))).toInt32 = nI (ms_pd σ m i) := by
      by_cases h0 : 0 < ms_ho σ m i
      · refine ⟨(mf_add hF (by have := hok.2.1; omega) (ms_costP hok hm hi) (ms_cost1 hok hm hi h0)).1, ?_⟩
        unfold ms_pd
        rw [if_pos h0, mf_it]
      · have hz : ms_ho σ m i = 0 := by omega
        have hc0 : ms_cost (σ (2 + m)) (ms_ho σ m i) (ms_pn σ m) = FP.fconst0 := by unfold ms_cost; rw [if_pos hz]
        unfold ms_pd
        rw [hc0, mf_add0 hF, if_neg h0]
        exact ⟨(mf_f2d hF).1, rfl⟩
    obtain ⟨s1, s2⟩ := hs
    left
    refine ⟨fw_u a j 8 i (nI (ms_pd σ m i)), ⟨fun j' f' q => by rw [fw_u_o q]; exact h.1 j' f' q, fun c hc => ?_⟩, ?_⟩
    · by_cases hci : c = i
      · rw [mt_uy hci, if_pos (by omega), hci]
      · rw [mt_un (by omega), h.2 c hc]
        by_cases hlt : c < i
        · rw [if_pos hlt, if_pos (by omega)]
        · rw [if_neg hlt, if_neg (by omega)]
    · simp (discharger := omega) only [f_X7_charge_L2, nI_add, mt_mul, nI_clamp, nI_leI, nI_ltI, nI_eq, mt_in_t, mt_b1, mt_b2, mt_b3, mt_b4, mt_l, mt_g, ↓reduceIte, Nat.reduceEqDiff, Nat.reduceLeDiff, ml_0, ml_1, ml_2, ml_3, ml_4, ml_5, ml_6, ml_7, ml_8, ml_9, ml_10, ml_11, ml_12, ml_13, ml_14, ml_16, ml_31, ml_32, ml_40, ml_42, ml_48, ml_50, ml_57, ml_59, ml_60, ml_63, ml_98, ml_100, ml_103, ml_104, ml_105, ml_106, ml_107, ml_108, ml_109, ml_110, ml_111, ml_112, ml_113, ml_114, ml_115, ml_120, ml_127, ml_176, ml_180, ml_200, ml_254, ml_255, ml_256, ml_300, ml_728, ml_832, ml_65536, e1, e2, hi', s1, s2]
/-- the load behind the first two steps -/
def ms_s2 (σ : Nat → Nat) (m g : Nat) : Nat := if σ (4 + 6 * g + 4) = m + 1 then ms_sd σ m (σ (2 + m)) g else σ (4 + 6 * g + 3)
theorem ms_sw_k {w : Nat} {v : Nat → Nat} (hok : mt_k σ) (hw : w = 3 ∨ w = 5) (hv : ∀ g, g < σ 0 → w = 3 → v g < 256) : mt_k (ms_sw σ w v) := by
  refine ⟨by rw [ms_sw_i (by omega)]; exact hok.1, fun g hg => ?_⟩
  rw [ms_sw_i (by omega)] at hg
  have h := hok.2 g hg
  have h16 := hok.1
  unfold mt_G at h ⊢
  rw [ms_sw_o (w' := 0) (by omega) (by decide), ms_sw_o (w' := 1) (by omega) (by decide), ms_sw_o (w' := 2) (by omega) (by decide), ms_sw_o (w' := 4) (by omega) (by decide)]
  rcases hw with rfl | rfl
  · rw [ms_sw_s (by omega) (by decide)]
    exact ⟨h.1, h.2.1, h.2.2.1, hv g hg rfl, h.2.2.2.2⟩
  · rw [ms_sw_o (w' := 3) (by omega) (by decide)]
    exact h
theorem ms_eq_sw {w : Nat} {v v' : Nat → Nat} (h16 : σ 0 ≤ 16) (hw : w < 6) (h : ∀ g, g < σ 0 → v g = v' g) : ms_eq (ms_sw σ w v) (ms_sw σ w v') := by
  refine ⟨fun i hi => by rw [ms_sw_i (by omega), ms_sw_i (by omega)], fun c hc => by rw [ms_sw_i (by omega), ms_sw_i (by omega)], fun g hg w' hw' => ?_⟩
  rw [ms_sw_i (by omega)] at hg
  by_cases hww : w' = w
  · subst hww
    rw [ms_sw_s (by omega) hw', ms_sw_s (by omega) hw']
    exact h g hg
  · rw [ms_sw_o hww hw', ms_sw_o hww hw']
theorem mt_sm_z {f : Nat → Nat} : ∀ {n : Nat}, (∀ g, g < n → f g = 0) → mt_sm f n = 0
  | 0, _ => rfl
  | n + 1, h => by
    show mt_sm f n + f n = 0
    rw [mt_sm_z (n := n) (fun g hg => h g (by omega)), h n (by omega)]
theorem mt_sm_c2 {f h : Nat → Nat} {n n' : Nat} (e : n = n') (q : ∀ g, g < n' → f g = h g) : mt_sm f n = mt_sm h n' := by
  subst e
  exact mt_sm_c q
theorem mt_sm_lin {f c d h : Nat → Nat} : ∀ {n : Nat}, (∀ g, g < n → h g = f g + 3 * c g + 10 * d g) → mt_sm f n + 3 * mt_sm c n + 10 * mt_sm d n = mt_sm h n
  | 0, _ => rfl
  | n + 1, q => by
    have h1 := mt_sm_lin (n := n) (fun g hg => q g (by omega))
    have h2 := q n (by omega)
    show mt_sm f n + f n + 3 * (mt_sm c n + c n) + 10 * (mt_sm d n + d n) = mt_sm h n + h n
    omega
theorem mt_bitq : ∀ k, k < 8 → ∀ x, x < 256 → (x &&& 2 ^ k = 0 ↔ x ||| 2 ^ k ≠ x) := by decide +kernel
theorem ms_gr_3 {v : Nat → Nat} {m : Nat} : ms_gr (ms_sw σ 3 v) m = ms_gr σ m := by
  unfold ms_gr
  simp (discharger := omega) only [ms_sw_o, ms_sw_i]
/-- the first two steps, and how many garments get a stain -/
theorem mc_soak {j m : Nat} (hC : mt_C μ j σ) (hok : mt_k σ) (hm : m < 2) (hh : σ (2 + m) < 1000) : ∃ a b, f_X8_removeStains μ j (nI m) = some (a, ()) ∧ mt_C a j (ms_sw σ 3 (fun g => if σ (4 + 6 * g + 4) = m + 1 then ms_wd σ (σ (2 + m)) g else σ (4 + 6 * g + 3))) ∧ mt_fr (mt_sC j) μ a ∧ f_X8_letColoursRun a j (nI m) = some (b, nI (mt_sm (fun g => if σ (4 + 6 * g + 4) = m + 1 ∧ ms_sd σ m (σ (2 + m)) g ≠ ms_wd σ (σ (2 + m)) g then 1 else 0) (σ 0))) ∧ mt_C b j (ms_sw σ 3 (ms_s2 σ m)) ∧ mt_fr (mt_sC j) μ b := by
  have h16 := hok.1
  obtain ⟨a, e1, C1, F1⟩ := mc_removeStains hC hok hm hh
  have hv1 : ∀ g, g < σ 0 → 3 = 3 → (if σ (4 + 6 * g + 4) = m + 1 then ms_wd σ (σ (2 + m)) g else σ (4 + 6 * g + 3)) < 256 := fun g hg _ => by
    split
    · exact ms_wd_lt hok hg _
    · exact (hok.2 g hg).2.2.2.1
  have K1 := ms_sw_k (v := fun g => if σ (4 + 6 * g + 4) = m + 1 then ms_wd σ (σ (2 + m)) g else σ (4 + 6 * g + 3)) hok (Or.inl rfl) hv1
  have H1 : ms_sw σ 3 (fun g => if σ (4 + 6 * g + 4) = m + 1 then ms_wd σ (σ (2 + m)) g else σ (4 + 6 * g + 3)) (2 + m) = σ (2 + m) := ms_sw_i (by omega)
  have Z1 : ms_sw σ 3 (fun g => if σ (4 + 6 * g + 4) = m + 1 then ms_wd σ (σ (2 + m)) g else σ (4 + 6 * g + 3)) 0 = σ 0 := ms_sw_i (by omega)
  by_cases h120 : 120 ≤ σ (2 + m)
  · obtain ⟨b, e2, C2, F2⟩ := mc_letColoursRun C1 K1 hm (by rw [H1]; exact hh) (by rw [H1]; exact h120)
    refine ⟨a, b, e1, C1, F1, ?_, mt_C_e C2 ?_, mt_fr_t F1 F2⟩
    · rw [e2, Z1]
      congr 3
      refine mt_sm_c (fun g hg => ?_)
      unfold ms_lcC
      rw [ms_sw_o (w' := 4) (by decide) (by decide), ms_sw_o (w' := 2) (by decide) (by decide), ms_sw_s (by omega) (by decide), ms_gr_3]
      have hw := ms_wd_lt hok hg (σ (2 + m))
      have hq := mt_bitq (ms_gr σ m) (ms_gr_lt hok m) _ hw
      unfold ms_sd
      by_cases q1 : σ (4 + 6 * g + 4) = m + 1
      · by_cases q2 : σ (4 + 6 * g + 2) = 0
        · by_cases q3 : ms_wd σ (σ (2 + m)) g &&& 2 ^ ms_gr σ m = 0
          · have q4 := hq.mp q3
            simp only [q1, q2, q3, q4, h120, and_self, ↓reduceIte, ne_eq, not_false_eq_true]
          · have q4 : ms_wd σ (σ (2 + m)) g ||| 2 ^ ms_gr σ m = ms_wd σ (σ (2 + m)) g := Classical.byContradiction (fun z => q3 (hq.mpr z))
            simp only [q1, q2, q3, q4, h120, and_self, and_false, ↓reduceIte, ne_eq, not_true_eq_false]
        · simp only [q1, q2, h120, and_false, false_and, ↓reduceIte, ne_eq, Nat.or_zero, not_true_eq_false]
      · simp only [q1, false_and, ↓reduceIte]
    · refine ⟨fun i hi => by rw [ms_sw_i (by omega), ms_sw_i (by omega), ms_sw_i (by omega)], fun c hc => by rw [ms_sw_i (by omega), ms_sw_i (by omega), ms_sw_i (by omega)], fun g hg w hw => ?_⟩
      rw [ms_sw_i (by omega), Z1] at hg
      by_cases hw3 : w = 3
      · subst hw3
        rw [ms_sw_s (by omega) (by decide), ms_sw_s (by omega) (by decide)]
        unfold ms_lcS ms_s2
        rw [ms_sw_o (w' := 4) (by decide) (by decide), ms_sw_o (w' := 2) (by decide) (by decide), ms_sw_s (by omega) (by decide), ms_gr_3]
        unfold ms_sd
        by_cases q1 : σ (4 + 6 * g + 4) = m + 1
        · by_cases q2 : σ (4 + 6 * g + 2) = 0
          · simp only [q1, q2, h120, and_self, ↓reduceIte]
          · simp only [q1, q2, h120, and_false, ↓reduceIte, Nat.or_zero]
        · simp only [q1, false_and, ↓reduceIte]
      · rw [ms_sw_o hw3 hw, ms_sw_o hw3 hw, ms_sw_o hw3 hw]
  · have e2 := mc_letColoursRun0 C1 hm (by rw [H1]; omega)
    have hsd : ∀ g, ms_sd σ m (σ (2 + m)) g = ms_wd σ (σ (2 + m)) g := fun g => by
      unfold ms_sd
      rw [if_neg (fun z => h120 z.1), Nat.or_zero]
    refine ⟨a, a, e1, C1, F1, ?_, mt_C_e C1 (ms_eq_sw h16 (by decide) (fun g _ => ?_)), F1⟩
    · rw [e2, mt_sm_z (fun g _ => ?_)]
      rw [if_neg (fun z => z.2 (hsd g))]
    · unfold ms_s2
      rw [hsd]
/-- who is lost, told of the load behind the first two steps -/
theorem ms_ls_e {σ' : Nat → Nat} {m : Nat} (h16 : σ 0 ≤ 16) (h0 : σ' 0 = σ 0) (hw : ∀ g, g < 16 → ∀ w, w = 1 ∨ w = 2 ∨ w = 4 → σ' (4 + 6 * g + w) = σ (4 + 6 * g + w)) (hs : ∀ g, g < σ 0 → σ (4 + 6 * g + 4) = m + 1 → σ' (4 + 6 * g + 3) = ms_sd σ m (σ (2 + m)) g) {g : Nat} (hg : g < σ 0) : ms_ls σ' m g ↔ σ (4 + 6 * g + 4) = m + 1 ∧ ms_lo σ m (σ (2 + m)) g := by
  have hh : ms_held σ' m = ms_held σ m := by
    unfold ms_held
    rw [h0]
    exact mt_sm_c (fun q hq => by rw [hw q (by omega) 4 (by omega)])
  have hln : ms_ln σ' m g (σ' 0) ↔ ms_ln σ m g (σ 0) := by
    unfold ms_ln
    rw [h0, hw g (by omega) 2 (by omega)]
    constructor
    · intro d k hk
      have := d k hk
      rw [hw k (by omega) 4 (by omega), hw k (by omega) 1 (by omega), hw k (by omega) 2 (by omega)] at this
      exact this
    · intro d k hk
      rw [hw k (by omega) 4 (by omega), hw k (by omega) 1 (by omega), hw k (by omega) 2 (by omega)]
      exact d k hk
  unfold ms_ls ms_lo
  rw [hln, hh, hw g (by omega) 4 (by omega), hw g (by omega) 1 (by omega)]
  constructor
  · rintro ⟨⟨a, b⟩, c, d, e⟩
    rw [hs g hg a] at d
    exact ⟨a, c, b, d, e⟩
  · rintro ⟨a, c, b, d, e⟩
    refine ⟨⟨a, b⟩, c, ?_, e⟩
    rw [hs g hg a]
    exact d
theorem ms_s2_lt (hok : mt_k σ) {m : Nat} : ∀ g, g < σ 0 → 3 = 3 → ms_s2 σ m g < 256 := fun g hg _ => by
  unfold ms_s2
  split
  · exact ms_sd_lt hok hg _ _
  · exact (hok.2 g hg).2.2.2.1
theorem mc_damageOfWashing {j m : Nat} (hC : mt_C μ j σ) (hok : mt_k σ) (hm : m < 2) (hh : σ (2 + m) < 1000) : ∃ a, f_X8_damageOfWashing μ j (nI m) = some (a, nI (ms_harm σ m (σ (2 + m)))) ∧ mt_fr (mt_sC j) μ a := by
  have h16 := hok.1
  obtain ⟨a, b, e1, C1, F1, e2, C2, F2⟩ := mc_soak hC hok hm hh
  have K2 := ms_sw_k (v := ms_s2 σ m) hok (Or.inl rfl) (ms_s2_lt hok)
  obtain ⟨c, e3, C3, F3⟩ := mc_loseSocks C2 K2 hm
  refine ⟨c, ?_, mt_fr_t F2 F3⟩
  have Z2 : ms_sw σ 3 (ms_s2 σ m) 0 = σ 0 := ms_sw_i (by omega)
  have e3' : f_X8_loseSocks b j (nI m) = some (c, nI (mt_sm (fun g => if σ (4 + 6 * g + 4) = m + 1 ∧ ms_lo σ m (σ (2 + m)) g then 1 else 0) (σ 0))) := by
    rw [e3]
    congr 3
    refine mt_sm_c2 Z2 (fun g hg => ?_)
    have hiff := ms_ls_e (σ' := ms_sw σ 3 (ms_s2 σ m)) h16 Z2 (fun q hq w hw => ms_sw_o (by omega) (by omega)) (fun q hq hin => by rw [ms_sw_s (by omega) (by decide)]; unfold ms_s2; rw [if_pos hin]) hg
    by_cases h : ms_ls (ms_sw σ 3 (ms_s2 σ m)) m g
    · rw [if_pos h, if_pos (hiff.mp h)]
    · rw [if_neg h, if_neg (fun z => h (hiff.mpr z))]
  have Z1 : ms_sw σ 3 (fun g => if σ (4 + 6 * g + 4) = m + 1 then ms_wd σ (σ (2 + m)) g else σ (4 + 6 * g + 3)) 0 = σ 0 := ms_sw_i (by omega)
  have cn := C1.1
  rw [Z1] at cn
  have key : f_X8_damageOfWashing_L9 j 1000 a (nI m) (nI 0) (nI 0) = some (c, nI (ms_harm σ m (σ (2 + m)))) := by
    refine mt_det (fun n (x : Int32) i => f_X8_damageOfWashing_L9 j n a (nI m) x i) (fun i => nI (mt_sm (fun g => if σ (4 + 6 * g + 4) = m + 1 then ms_pc (ms_wd σ (σ (2 + m)) g) else 0) i)) (N := σ 0) ?_ ?_ (n := 1000) (by omega)
    · intro n
      simp (discharger := omega) only [f_X8_damageOfWashing_L9, nI_add, mt_mul, nI_clamp, nI_leI, nI_ltI, nI_eq, mt_in_t, mt_b1, mt_b2, mt_b3, mt_b4, mt_l, mt_g, ↓reduceIte, Nat.reduceEqDiff, Nat.reduceLeDiff, ml_0, ml_1, ml_2, ml_3, ml_4, ml_5, ml_6, ml_7, ml_8, ml_9, ml_10, ml_11, ml_12, ml_13, ml_14, ml_16, ml_31, ml_32, ml_40, ml_42, ml_48, ml_50, ml_57, ml_59, ml_60, ml_63, ml_98, ml_100, ml_103, ml_104, ml_105, ml_106, ml_107, ml_108, ml_109, ml_110, ml_111, ml_112, ml_113, ml_114, ml_115, ml_120, ml_127, ml_176, ml_180, ml_200, ml_254, ml_255, ml_256, ml_300, ml_728, ml_832, ml_65536, cn, e2, e3', Nat.le_refl]
      rw [mt_sm_lin (h := ms_ha σ m (σ (2 + m)))]
      · rfl
      · intro g hg
        unfold ms_ha
        by_cases q1 : σ (4 + 6 * g + 4) = m + 1
        · by_cases q2 : ms_sd σ m (σ (2 + m)) g = ms_wd σ (σ (2 + m)) g
          · have c1 : (if σ (4 + 6 * g + 4) = m + 1 ∧ ms_sd σ m (σ (2 + m)) g ≠ ms_wd σ (σ (2 + m)) g then 1 else 0) = 0 := if_neg (fun z => z.2 q2)
            rw [c1, if_pos q1, if_pos q1, if_pos q2]
            by_cases q3 : ms_lo σ m (σ (2 + m)) g
            · have c2 : (if σ (4 + 6 * g + 4) = m + 1 ∧ ms_lo σ m (σ (2 + m)) g then 1 else 0) = 1 := if_pos ⟨q1, q3⟩
              have c3 : (if ms_lo σ m (σ (2 + m)) g then 10 else 0) = 10 := if_pos q3
              rw [c2, c3]
            · have c2 : (if σ (4 + 6 * g + 4) = m + 1 ∧ ms_lo σ m (σ (2 + m)) g then 1 else 0) = 0 := if_neg (fun z => q3 z.2)
              have c3 : (if ms_lo σ m (σ (2 + m)) g then 10 else 0) = 0 := if_neg q3
              rw [c2, c3]
          · have c1 : (if σ (4 + 6 * g + 4) = m + 1 ∧ ms_sd σ m (σ (2 + m)) g ≠ ms_wd σ (σ (2 + m)) g then 1 else 0) = 1 := if_pos ⟨q1, q2⟩
            rw [c1, if_pos q1, if_pos q1, if_neg q2]
            by_cases q3 : ms_lo σ m (σ (2 + m)) g
            · have c2 : (if σ (4 + 6 * g + 4) = m + 1 ∧ ms_lo σ m (σ (2 + m)) g then 1 else 0) = 1 := if_pos ⟨q1, q3⟩
              have c3 : (if ms_lo σ m (σ (2 + m)) g then 10 else 0) = 10 := if_pos q3
              rw [c2, c3]
            · have c2 : (if σ (4 + 6 * g + 4) = m + 1 ∧ ms_lo σ m (σ (2 + m)) g then 1 else 0) = 0 := if_neg (fun z => q3 z.2)
              have c3 : (if ms_lo σ m (σ (2 + m)) g then 10 else 0) = 0 := if_neg q3
              rw [c2, c3]
        · simp only [q1, false_and, ↓reduceIte]
    · intro n i hi
      have e4 : a j 5 i = nI (σ (4 + 6 * i + 4)) := by
        have := mt_C_g C1 (w := 4) (by decide) (g := i) (by rw [Z1]; exact hi)
        rw [ms_sw_o (w' := 4) (by decide) (by decide)] at this
        exact this
      have q := mc_isInC e4 (hok.2 i hi).2.2.2.2 (by omega) hm
      have e5 : a j 4 i = nI (if σ (4 + 6 * i + 4) = m + 1 then ms_wd σ (σ (2 + m)) i else σ (4 + 6 * i + 3)) := by
        have := mt_C_g C1 (w := 3) (by decide) (g := i) (by rw [Z1]; exact hi)
        rw [ms_sw_s (by omega) (by decide)] at this
        exact this
      have hw := ms_wd_lt hok hi (σ (2 + m))
      have hi' : ¬ σ 0 ≤ i := by omega
      by_cases h1 : σ (4 + 6 * i + 4) = m + 1
      · rw [if_pos h1] at e5
        simp (discharger := omega) only [f_X8_damageOfWashing_L9, f_X7_stainsOn, nI_add, mt_mul, nI_clamp, nI_leI, nI_ltI, nI_eq, mt_in_t, mt_b1, mt_b2, mt_b3, mt_b4, mt_l, mt_g, ↓reduceIte, Nat.reduceEqDiff, Nat.reduceLeDiff, ml_0, ml_1, ml_2, ml_3, ml_4, ml_5, ml_6, ml_7, ml_8, ml_9, ml_10, ml_11, ml_12, ml_13, ml_14, ml_16, ml_31, ml_32, ml_40, ml_42, ml_48, ml_50, ml_57, ml_59, ml_60, ml_63, ml_98, ml_100, ml_103, ml_104, ml_105, ml_106, ml_107, ml_108, ml_109, ml_110, ml_111, ml_112, ml_113, ml_114, ml_115, ml_120, ml_127, ml_176, ml_180, ml_200, ml_254, ml_255, ml_256, ml_300, ml_728, ml_832, ml_65536, cn, hi', q, h1, e5, mt_bc, mt_sm]
      · simp (discharger := omega) only [f_X8_damageOfWashing_L9, nI_add, mt_mul, nI_clamp, nI_leI, nI_ltI, nI_eq, mt_in_t, mt_b1, mt_b2, mt_b3, mt_b4, mt_l, mt_g, ↓reduceIte, Nat.reduceEqDiff, Nat.reduceLeDiff, ml_0, ml_1, ml_2, ml_3, ml_4, ml_5, ml_6, ml_7, ml_8, ml_9, ml_10, ml_11, ml_12, ml_13, ml_14, ml_16, ml_31, ml_32, ml_40, ml_42, ml_48, ml_50, ml_57, ml_59, ml_60, ml_63, ml_98, ml_100, ml_103, ml_104, ml_105, ml_106, ml_107, ml_108, ml_109, ml_110, ml_111, ml_112, ml_113, ml_114, ml_115, ml_120, ml_127, ml_176, ml_180, ml_200, ml_254, ml_255, ml_256, ml_300, ml_728, ml_832, ml_65536, cn, hi', q, h1, mt_sm, Nat.add_zero]
  simp (discharger := omega) only [f_X8_damageOfWashing, nI_add, mt_mul, nI_clamp, nI_leI, nI_ltI, nI_eq, mt_in_t, mt_b1, mt_b2, mt_b3, mt_b4, mt_l, mt_g, ↓reduceIte, Nat.reduceEqDiff, Nat.reduceLeDiff, ml_0, ml_1, ml_2, ml_3, ml_4, ml_5, ml_6, ml_7, ml_8, ml_9, ml_10, ml_11, ml_12, ml_13, ml_14, ml_16, ml_31, ml_32, ml_40, ml_42, ml_48, ml_50, ml_57, ml_59, ml_60, ml_63, ml_98, ml_100, ml_103, ml_104, ml_105, ml_106, ml_107, ml_108, ml_109, ml_110, ml_111, ml_112, ml_113, ml_114, ml_115, ml_120, ml_127, ml_176, ml_180, ml_200, ml_254, ml_255, ml_256, ml_300, ml_728, ml_832, ml_65536, e1, key]
theorem mc_wash {j m : Nat} (hC : mt_C μ j σ) (hok : mt_ok B σ) (hB : B < 131072) (hm : m < 2) : ∃ a, f_X8_wash μ j (nI m) = some (a, nI (mt_sm (ms_lc σ m) (σ 0))) ∧ mt_C a j (ms_wash σ m) ∧ mt_fr (mt_sC j) μ a := by
  have hk := hok.1
  have h16 := hk.1
  have hh := hok.2.2.1 m hm
  obtain ⟨a0, f0, fr0, p0⟩ := mc_charge hC hok hB hm
  let σc : Nat → Nat := fun i => if i = 1 then σ 1 + 1 else if 100 ≤ i then ms_pd σ m (i - 100) else σ i
  have hc : ∀ i, i < 100 → i ≠ 1 → σc i = σ i := fun i hi h1 => by
    show (if i = 1 then σ 1 + 1 else if 100 ≤ i then ms_pd σ m (i - 100) else σ i) = σ i
    rw [if_neg h1, if_neg (by omega)]
  have hc1 : σc 1 = σ 1 + 1 := rfl
  have hcp : ∀ c, c < 4 → σc (100 + c) = ms_pd σ m c := fun c hcc => by
    show (if 100 + c = 1 then σ 1 + 1 else if 100 ≤ 100 + c then ms_pd σ m (100 + c - 100) else σ (100 + c)) = _
    rw [if_neg (by omega), if_pos (by omega)]
    congr 1
    omega
  have er : a0 j 0 9 = nI (σ 1) := by rw [fr0 j 0 (by omega)]; exact hC.2.1
  have C0 : mt_C (fw_u a0 j 0 9 (nI (σ 1 + 1))) j σc := by
    refine mt_C_of ?_ ?_ (fun q hq => ?_) (fun c hcc => ?_) (fun w hw g hg => ?_)
    · rw [mt_un (by omega), fr0 j 0 (by omega), hc 0 (by omega) (by omega)]; exact hC.1
    · rw [mt_uy rfl, hc1]
    · rw [mt_un (by omega), fr0 j 7 (by omega), hc (2 + q) (by omega) (by omega)]; exact hC.2.2.1 q hq
    · rw [mt_un (by omega), hcp c hcc]; exact p0 c hcc
    · rw [hc 0 (by omega) (by omega)] at hg
      rw [mt_un (by omega), fr0 j (1 + w) (by omega), hc (4 + 6 * g + w) (by omega) (by omega)]
      exact mt_C_g hC hw hg
  have kc := mt_k_c hc hk
  have F0 : mt_fr (mt_sC j) μ (fw_u a0 j 0 9 (nI (σ 1 + 1))) := mt_fr_a (fun j' f' q => fr0 j' f' (fun z => by rw [z.1, z.2, mt_sC_t (by decide)] at q; cases q)) (mt_sC_t (by decide))
  have hc2 : σc (2 + m) = σ (2 + m) := hc _ (by omega) (by omega)
  have hz : σc 0 = σ 0 := hc 0 (by omega) (by omega)
  obtain ⟨a, b, e1, C1, F1, e2, C2, F2⟩ := mc_soak C0 kc hm (by rw [hc2]; omega)
  have K2 := ms_sw_k (v := ms_s2 σc m) kc (Or.inl rfl) (ms_s2_lt kc)
  obtain ⟨c, e3, C3, F3⟩ := mc_countWash C2 K2 hm
  have K3 := ms_sw_k (w := 5) (v := fun g => if ms_sw σc 3 (ms_s2 σc m) (4 + 6 * g + 4) = m + 1 then ms_sw σc 3 (ms_s2 σc m) (4 + 6 * g + 5) + 1 else ms_sw σc 3 (ms_s2 σc m) (4 + 6 * g + 5)) K2 (Or.inr rfl) (fun g _ z => absurd z (by decide))
  obtain ⟨d, e4, C4, F4⟩ := mc_loseSocks C3 K3 hm
  generalize hs3 : ms_sw (ms_sw σc 3 (ms_s2 σc m)) 5 (fun g => if ms_sw σc 3 (ms_s2 σc m) (4 + 6 * g + 4) = m + 1 then ms_sw σc 3 (ms_s2 σc m) (4 + 6 * g + 5) + 1 else ms_sw σc 3 (ms_s2 σc m) (4 + 6 * g + 5)) = σ3 at *
  have z3 : σ3 0 = σ 0 := by rw [← hs3, ms_sw_i (by omega), ms_sw_i (by omega), hz]
  have w3 : ∀ g, g < 16 → ∀ w, w = 0 ∨ w = 1 ∨ w = 2 ∨ w = 4 → σ3 (4 + 6 * g + w) = σ (4 + 6 * g + w) := fun g hg w hw => by
    rw [← hs3, ms_sw_o (by omega) (by omega), ms_sw_o (by omega) (by omega), hc _ (by omega) (by omega)]
  have s3 : ∀ g, g < 16 → σ3 (4 + 6 * g + 3) = if σ (4 + 6 * g + 4) = m + 1 then ms_sd σ m (σ (2 + m)) g else σ (4 + 6 * g + 3) := fun g hg => by
    rw [← hs3, ms_sw_o (by omega) (by omega), ms_sw_s hg (by decide)]
    unfold ms_s2
    rw [hc2, hc (4 + 6 * g + 4) (by omega) (by omega), hc (4 + 6 * g + 3) (by omega) (by omega), ms_sd_c hc h16 m _ hg]
  have s5 : ∀ g, g < 16 → σ3 (4 + 6 * g + 5) = if σ (4 + 6 * g + 4) = m + 1 then σ (4 + 6 * g + 5) + 1 else σ (4 + 6 * g + 5) := fun g hg => by
    rw [← hs3, ms_sw_s hg (by decide), ms_sw_o (w' := 4) (by omega) (by omega), ms_sw_o (w' := 5) (by omega) (by omega), hc (4 + 6 * g + 4) (by omega) (by omega), hc (4 + 6 * g + 5) (by omega) (by omega)]
  have hls : ∀ g, g < σ 0 → (ms_ls σ3 m g ↔ σ (4 + 6 * g + 4) = m + 1 ∧ ms_lo σ m (σ (2 + m)) g) := fun g hg => ms_ls_e h16 z3 (fun q hq w hw => w3 q hq w (by omega)) (fun q hq hin => by rw [s3 q (by omega), if_pos hin]) hg
  have K4 : mt_k (ms_sw σ3 4 (fun g => if ms_ls σ3 m g then 3 else σ3 (4 + 6 * g + 4))) := by
    refine ⟨by rw [ms_sw_i (by omega)]; exact K3.1, fun g hg => ?_⟩
    rw [ms_sw_i (by omega)] at hg
    have h := K3.2 g hg
    have q := K3.1
    unfold mt_G at h ⊢
    rw [ms_sw_o (w' := 0) (by omega) (by decide), ms_sw_o (w' := 1) (by omega) (by decide), ms_sw_o (w' := 2) (by omega) (by decide), ms_sw_o (w' := 3) (by omega) (by decide), ms_sw_s (by omega) (by decide)]
    refine ⟨h.1, h.2.1, h.2.2.1, h.2.2.2.1, ?_⟩
    split
    · decide
    · exact h.2.2.2.2
  obtain ⟨e, e5, C5, F5⟩ := mc_returnToBags C4 K4 hm
  refine ⟨e, ?_, mt_C_e C5 ?_, mt_fr_t F0 (mt_fr_t F2 (mt_fr_t F3 (mt_fr_t F4 F5)))⟩
  · have hcount : mt_sm (fun g => if ms_ls σ3 m g then 1 else 0) (σ3 0) = mt_sm (ms_lc σ m) (σ 0) := by
      refine mt_sm_c2 z3 (fun g hg => ?_)
      unfold ms_lc
      by_cases h : ms_ls σ3 m g
      · rw [if_pos h, if_pos ((hls g hg).mp h)]
      · rw [if_neg h, if_neg (fun z => h ((hls g hg).mpr z))]
    rw [hcount] at e4
    simp (discharger := omega) only [f_X8_wash, nI_add, mt_mul, nI_clamp, nI_leI, nI_ltI, nI_eq, mt_in_t, mt_b1, mt_b2, mt_b3, mt_b4, mt_l, mt_g, ↓reduceIte, Nat.reduceEqDiff, Nat.reduceLeDiff, ml_0, ml_1, ml_2, ml_3, ml_4, ml_5, ml_6, ml_7, ml_8, ml_9, ml_10, ml_11, ml_12, ml_13, ml_14, ml_16, ml_31, ml_32, ml_40, ml_42, ml_48, ml_50, ml_57, ml_59, ml_60, ml_63, ml_98, ml_100, ml_103, ml_104, ml_105, ml_106, ml_107, ml_108, ml_109, ml_110, ml_111, ml_112, ml_113, ml_114, ml_115, ml_120, ml_127, ml_176, ml_180, ml_200, ml_254, ml_255, ml_256, ml_300, ml_728, ml_832, ml_65536, f0, er, e1, e2, e3, e4, e5]
  · refine ⟨fun i hi => ?_, fun q hq => ?_, fun g hg w hw => ?_⟩
    · rw [ms_sw_i (by omega), ms_sw_i (by omega), ← hs3, ms_sw_i (by omega), ms_sw_i (by omega)]
      unfold ms_wash
      by_cases h1 : i = 1
      · rw [if_pos h1, h1, hc1]
      · rw [if_neg h1, if_neg (by omega), if_neg (by omega), hc i (by omega) h1]
    · rw [ms_sw_i (by omega), ms_sw_i (by omega), ← hs3, ms_sw_i (by omega), ms_sw_i (by omega), hcp q hq]
      unfold ms_wash
      rw [if_neg (by omega), if_pos (by omega)]
      congr 1
      omega
    · rw [ms_sw_i (by omega), ms_sw_i (by omega), z3] at hg
      have hwash : ms_wash σ m (4 + 6 * g + w) = ms_wg σ m (σ (2 + m)) g w := by
        unfold ms_wash
        rw [if_neg (by omega), if_neg (by omega), if_pos (by omega)]
        congr 1 <;> omega
      rw [hwash]
      unfold ms_wg
      have p4 := w3 g (by omega) 4 (by omega)
      by_cases w4 : w = 4
      · subst w4
        rw [ms_sw_s (by omega) (by decide), ms_sw_s (by omega) (by decide)]
        by_cases q1 : σ (4 + 6 * g + 4) = m + 1
        · have q5 : σ3 (4 + 6 * g + 4) = m + 1 := p4.trans q1
          by_cases q2 : ms_lo σ m (σ (2 + m)) g
          · have q3 := (hls g hg).mpr ⟨q1, q2⟩
            have q4 : ¬ 3 = m + 1 := by omega
            rw [if_pos q3, if_neg q4, if_pos q1, if_neg (by decide), if_pos rfl, if_pos q2]
          · have q3 : ¬ ms_ls σ3 m g := fun z => q2 ((hls g hg).mp z).2
            rw [if_neg q3, if_pos q5, if_pos q1, if_neg (by decide), if_pos rfl, if_neg q2]
        · have q3 : ¬ ms_ls σ3 m g := fun z => q1 ((hls g hg).mp z).1
          have q5 : ¬ σ3 (4 + 6 * g + 4) = m + 1 := fun z => q1 (p4.symm.trans z)
          rw [if_neg q3, if_neg q5, if_neg q1, p4]
      · rw [ms_sw_o w4 hw, ms_sw_o w4 hw]
        by_cases w3' : w = 3
        · subst w3'
          rw [s3 g (by omega)]
          by_cases q1 : σ (4 + 6 * g + 4) = m + 1 <;> simp only [q1, ↓reduceIte]
        · by_cases w5 : w = 5
          · subst w5
            rw [s5 g (by omega)]
            by_cases q1 : σ (4 + 6 * g + 4) = m + 1 <;> simp only [q1, ↓reduceIte, Nat.reduceEqDiff]
          · rw [w3 g (by omega) w (by omega), if_neg w3', if_neg w4, if_neg w5, ite_self]
end MY
