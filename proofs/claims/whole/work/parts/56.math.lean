/-! the mathematics, 17: load, takeOut, setTemperature, run -/
section PL
variable {μ : fw_M} {σ : Nat → Nat} {B : Nat}
theorem mt_C_up {j g w v : Nat} (hC : mt_C μ j σ) (h16 : σ 0 ≤ 16) (hg : g < σ 0) (hw : w < 6) : mt_C (fw_u μ j (1 + w) g (nI v)) j (ms_up σ (4 + 6 * g + w) v) := by
  refine mt_C_of ?_ ?_ (fun m hm => ?_) (fun q hq => ?_) (fun w' hw' g' hg' => ?_)
  · rw [mt_un (by omega), ms_up_o (by omega)]; exact hC.1
  · rw [mt_un (by omega), ms_up_o (by omega)]; exact hC.2.1
  · by_cases h : w = 6
    · omega
    · rw [mt_un (by omega), ms_up_o (by omega)]; exact hC.2.2.1 m hm
  · rw [mt_un (by omega), ms_up_o (by omega)]; exact hC.2.2.2.1 q hq
  · rw [ms_up_o (by omega)] at hg'
    by_cases h : g' = g ∧ w' = w
    · rw [h.1, h.2, mt_uy rfl, ms_up_s rfl]
    · rw [mt_un (by omega), ms_up_o (by omega)]
      exact mt_C_g hC hw' hg'
theorem mt_C_uph {j m v : Nat} (hC : mt_C μ j σ) (h16 : σ 0 ≤ 16) (hm : m < 2) : mt_C (fw_u μ j 7 m (nI v)) j (ms_up σ (2 + m) v) := by
  refine mt_C_of ?_ ?_ (fun m' hm' => ?_) (fun q hq => ?_) (fun w' hw' g' hg' => ?_)
  · rw [mt_un (by omega), ms_up_o (by omega)]; exact hC.1
  · rw [mt_un (by omega), ms_up_o (by omega)]; exact hC.2.1
  · by_cases h : m' = m
    · rw [h, mt_uy rfl, ms_up_s rfl]
    · rw [mt_un (by omega), ms_up_o (by omega)]; exact hC.2.2.1 m' hm'
  · rw [mt_un (by omega), ms_up_o (by omega)]; exact hC.2.2.2.1 q hq
  · rw [ms_up_o (by omega)] at hg'
    rw [mt_un (by omega), ms_up_o (by omega)]
    exact mt_C_g hC hw' hg'
theorem ms_held_up {g p m : Nat} (hg : g < σ 0) : ms_held (ms_up σ (4 + 6 * g + 4) p) m + (if σ (4 + 6 * g + 4) = m + 1 then 1 else 0) = ms_held σ m + (if p = m + 1 then 1 else 0) := by
  unfold ms_held
  rw [ms_up_o (by omega), mt_sm_rm hg, mt_sm_rm (f := fun g => if σ (4 + 6 * g + 4) = m + 1 then 1 else 0) hg, ms_up_s rfl]
  have : mt_sm (fun q => if q = g then 0 else if ms_up σ (4 + 6 * g + 4) p (4 + 6 * q + 4) = m + 1 then 1 else 0) (σ 0) = mt_sm (fun q => if q = g then 0 else if σ (4 + 6 * q + 4) = m + 1 then 1 else 0) (σ 0) := mt_sm_c (fun q hq => by
    by_cases h : q = g
    · rw [if_pos h, if_pos h]
    · rw [if_neg h, if_neg h, ms_up_o (by omega)])
  rw [this]
  omega
theorem ms_up_ok {g p : Nat} (hok : mt_ok B σ) (hg : g < σ 0) (hp : p < 4) (h5 : ∀ m, m < 2 → ms_held (ms_up σ (4 + 6 * g + 4) p) m ≤ 5) : mt_ok B (ms_up σ (4 + 6 * g + 4) p) := by
  obtain ⟨hk, h1, h2, h3, h4⟩ := hok
  have h16 := hk.1
  refine ⟨⟨by rw [ms_up_o (by omega)]; exact h16, fun q hq => ?_⟩, by rw [ms_up_o (by omega)]; exact h1, fun m hm => by rw [ms_up_o (by omega)]; exact h2 m hm, h5, fun q hq => by rw [ms_up_o (by omega), ms_up_o (by omega)]; exact h4 q hq⟩
  rw [ms_up_o (by omega)] at hq
  obtain ⟨a, b, c, d, e⟩ := hk.2 q hq
  unfold mt_G
  rw [ms_up_o (by omega), ms_up_o (by omega), ms_up_o (by omega), ms_up_o (by omega)]
  refine ⟨a, b, c, d, ?_⟩
  by_cases h : q = g
  · rw [h, ms_up_s rfl]; exact hp
  · rw [ms_up_o (by omega)]; exact e
theorem ms_load_ok {g m : Nat} (hok : mt_ok B σ) (hg : g < σ 0) (hm : m < 2) (h0 : σ (4 + 6 * g + 4) = 0) (h5 : ms_held σ m < 5) : mt_ok B (ms_up σ (4 + 6 * g + 4) (m + 1)) ∧ ms_held (ms_up σ (4 + 6 * g + 4) (m + 1)) m = ms_held σ m + 1 := by
  have e := fun m' => ms_held_up (σ := σ) (g := g) (p := m + 1) (m := m') hg
  refine ⟨ms_up_ok hok hg (by omega) (fun m' hm' => ?_), ?_⟩
  · have e1 := e m'
    have e2 := hok.2.2.2.1 m' hm'
    rw [h0, if_neg (by omega)] at e1
    by_cases h : m' = m
    · subst h
      rw [if_pos rfl] at e1
      omega
    · rw [if_neg (by omega)] at e1
      omega
  · have e1 := e m
    rw [h0, if_neg (by omega), if_pos rfl] at e1
    omega
theorem ms_take_ok {g : Nat} (hok : mt_ok B σ) (hg : g < σ 0) : mt_ok B (ms_up σ (4 + 6 * g + 4) 0) := by
  refine ms_up_ok hok hg (by omega) (fun m' hm' => ?_)
  have e1 := ms_held_up (σ := σ) (g := g) (p := 0) (m := m') hg
  have e2 := hok.2.2.2.1 m' hm'
  rw [if_neg (show ¬ 0 = m' + 1 by omega)] at e1
  omega
theorem ms_heat_ok {m v : Nat} (hok : mt_ok B σ) (hm : m < 2) (h1 : 40 ≤ v) (h2 : v ≤ 180) : mt_ok B (ms_up σ (2 + m) v) := by
  obtain ⟨hk, q1, q2, q3, q4⟩ := hok
  have h16 := hk.1
  refine ⟨⟨by rw [ms_up_o (by omega)]; exact h16, fun q hq => ?_⟩, by rw [ms_up_o (by omega)]; exact q1, fun m' hm' => ?_, fun m' hm' => ?_, fun q hq => by rw [ms_up_o (by omega), ms_up_o (by omega)]; exact q4 q hq⟩
  · rw [ms_up_o (by omega)] at hq
    unfold mt_G
    rw [ms_up_o (by omega), ms_up_o (by omega), ms_up_o (by omega), ms_up_o (by omega), ms_up_o (by omega)]
    exact hk.2 q hq
  · by_cases h : m' = m
    · rw [h, ms_up_s rfl]; exact ⟨h1, h2⟩
    · rw [ms_up_o (by omega)]; exact q2 m' hm'
  · have : ms_held (ms_up σ (2 + m) v) m' = ms_held σ m' := by
      unfold ms_held
      rw [ms_up_o (by omega)]
      exact mt_sm_c (fun g hg => by rw [ms_up_o (by omega)])
    rw [this]
    exact q3 m' hm'
theorem ms_wash_at {m g w : Nat} (hg : g < σ 0) (h16 : σ 0 ≤ 16) (hw : w < 6) : ms_wash σ m (4 + 6 * g + w) = ms_wg σ m (σ (2 + m)) g w := by
  unfold ms_wash
  rw [if_neg (by omega), if_neg (by omega), if_pos (by omega)]
  congr 1 <;> omega
theorem ms_wash_i {m i : Nat} (h : i < 4) (h1 : i ≠ 1) : ms_wash σ m i = σ i := by
  unfold ms_wash
  rw [if_neg h1, if_neg (by omega), if_neg (by omega)]
theorem ms_wash_ok {m : Nat} (hok : mt_ok B σ) (hB : B < 131072) (hm : m < 2) : mt_ok (B + 1) (ms_wash σ m) := by
  have hk := hok.1
  have h16 := hk.1
  have z0 : ms_wash σ m 0 = σ 0 := ms_wash_i (by decide) (by decide)
  have z1 : ms_wash σ m 1 = σ 1 + 1 := if_pos rfl
  refine ⟨⟨by rw [z0]; exact h16, fun g hg => ?_⟩, by rw [z1]; have := hok.2.1; omega, fun m' hm' => by rw [ms_wash_i (by omega) (by omega)]; exact hok.2.2.1 m' hm', fun m' hm' => ?_, fun c hc => ?_⟩
  · rw [z0] at hg
    obtain ⟨a, b, c, d, e⟩ := hk.2 g hg
    have s := ms_sd_lt hk hg m (σ (2 + m))
    unfold mt_G
    rw [ms_wash_at hg h16 (by omega), ms_wash_at hg h16 (by omega), ms_wash_at hg h16 (by omega), ms_wash_at hg h16 (by omega), ms_wash_at hg h16 (by omega)]
    unfold ms_wg
    by_cases p : σ (4 + 6 * g + 4) = m + 1
    · rw [if_pos p, if_pos p, if_pos p, if_pos p, if_pos p]
      refine ⟨a, b, c, s, ?_⟩
      rw [if_neg (by decide), if_pos rfl]
      split <;> decide
    · rw [if_neg p, if_neg p, if_neg p, if_neg p, if_neg p]
      exact ⟨a, b, c, d, e⟩
  · have : ms_held (ms_wash σ m) m' ≤ ms_held σ m' := by
      unfold ms_held
      rw [z0]
      refine mt_sm_m (fun g hg => ?_)
      rw [ms_wash_at hg h16 (by omega)]
      unfold ms_wg
      by_cases p : σ (4 + 6 * g + 4) = m + 1
      · rw [if_pos p, if_neg (show ¬ 4 = 3 by decide), if_pos rfl]
        have : ¬ (if ms_lo σ m (σ (2 + m)) g then 3 else 0) = m' + 1 := by
          split <;> omega
        rw [if_neg this]
        exact Nat.zero_le _
      · rw [if_neg p]
        exact Nat.le_refl _
    have := hok.2.2.2.1 m' hm'
    omega
  · have : ms_wash σ m (100 + c) = ms_pd σ m c := by
      unfold ms_wash
      rw [if_neg (by omega), if_pos (by omega)]
      congr 1
      omega
    rw [this, z1]
    exact ms_pd_F hok hB hm hc
/-! the arguments, and what both sides answer -/
def mt_rz (r t : Nat) : Prop := (r = 1 ∧ t = 1) ∨ (r = 3 ∧ t = 2) ∨ (r = 4 ∧ t = 3)
theorem mt_loadArgs {μ0 : fw_M} (hC : mt_C μ 0 σ) (hok : mt_ok B σ) (x1 x2 : Int32) (hM0 : mt_M μ0 19 0 σ) : (∃ g m, g < σ 0 ∧ m < 2 ∧ σ (4 + 6 * g + 4) = 0 ∧ ms_held σ m < 5 ∧ x1 = nI g ∧ x2 = nI m ∧ f_X7_faultOfLoading μ 0 x1 x2 = some (nI 0)) ∨ ∃ r t, mt_rz r t ∧ f_X7_faultOfLoading μ 0 x1 x2 = some (nI r) ∧ ∀ b, mt_M b 19 0 σ → f_X10_loads b x1 x2 = some (b, nI t) := by
  have hk := hok.1
  have h16 := hk.1
  rcases mt_gar (B := B) hC hM0 hk x1 with ⟨g, hg, rfl, q1, q2⟩ | ⟨q1, q2⟩
  · have q2' : ∀ b, mt_M b 19 0 σ → f_X10_isGarment b (nI g) = some (nI 1) := fun b hb => by
      have rn := mt_at hb (i := 0) (by decide)
      have h1 : ¬ g < 0 := by omega
      have h2 : ¬ σ 0 - 1 < g := by omega
      have h3 : nI (σ 0) - nI 1 = nI (σ 0 - 1) := mt_sub (by omega)
      simp (discharger := omega) only [f_X10_isGarment, f_X10_in, nI_add, mt_mul, nI_clamp, nI_leI, nI_ltI, nI_eq, mt_in_t, mt_b1, mt_b2, mt_b3, mt_b4, mt_l, mt_g, ↓reduceIte, Nat.reduceEqDiff, Nat.reduceLeDiff, ml_0, ml_1, ml_2, ml_3, ml_4, ml_5, ml_6, ml_7, ml_8, ml_9, ml_10, ml_11, ml_12, ml_13, ml_14, ml_16, ml_31, ml_32, ml_40, ml_42, ml_48, ml_50, ml_57, ml_59, ml_60, ml_63, ml_98, ml_100, ml_103, ml_104, ml_105, ml_106, ml_107, ml_108, ml_109, ml_110, ml_111, ml_112, ml_113, ml_114, ml_115, ml_120, ml_127, ml_176, ml_180, ml_200, ml_254, ml_255, ml_256, ml_300, ml_728, ml_832, ml_65536, rn, h1, h2, h3, mt_bo]
    have c4 : μ 0 5 g = nI (σ (4 + 6 * g + 4)) := mt_C_g hC (w := 4) (by decide) hg
    have b4 := (hk.2 g hg).2.2.2.2
    rcases mt_mac μ μ x2 with ⟨m, hm, rfl, q3, q4⟩ | ⟨q3, q4⟩
    · have q4' : ∀ b, f_X10_isMachine b (nI m) = some (nI 1) := fun b => mr_isMachine hm
      have eh := mc_countIn hC hk hm
      have h5 := hok.2.2.2.1 m hm
      by_cases p : σ (4 + 6 * g + 4) = 0
      · by_cases p5 : ms_held σ m < 5
        · left
          refine ⟨g, m, hg, hm, p, p5, rfl, rfl, ?_⟩
          simp (discharger := omega) only [f_X7_faultOfLoading, nI_add, mt_mul, nI_clamp, nI_leI, nI_ltI, nI_eq, mt_in_t, mt_b1, mt_b2, mt_b3, mt_b4, mt_l, mt_g, ↓reduceIte, Nat.reduceEqDiff, Nat.reduceLeDiff, ml_0, ml_1, ml_2, ml_3, ml_4, ml_5, ml_6, ml_7, ml_8, ml_9, ml_10, ml_11, ml_12, ml_13, ml_14, ml_16, ml_31, ml_32, ml_40, ml_42, ml_48, ml_50, ml_57, ml_59, ml_60, ml_63, ml_98, ml_100, ml_103, ml_104, ml_105, ml_106, ml_107, ml_108, ml_109, ml_110, ml_111, ml_112, ml_113, ml_114, ml_115, ml_120, ml_127, ml_176, ml_180, ml_200, ml_254, ml_255, ml_256, ml_300, ml_728, ml_832, ml_65536, q1, q3, c4, p, eh, p5]
        · right
          have p6 : ms_held σ m = 5 := by omega
          refine ⟨4, 3, Or.inr (Or.inr ⟨rfl, rfl⟩), ?_, fun b hb => ?_⟩
          · simp (discharger := omega) only [f_X7_faultOfLoading, nI_add, mt_mul, nI_clamp, nI_leI, nI_ltI, nI_eq, mt_in_t, mt_b1, mt_b2, mt_b3, mt_b4, mt_l, mt_g, ↓reduceIte, Nat.reduceEqDiff, Nat.reduceLeDiff, ml_0, ml_1, ml_2, ml_3, ml_4, ml_5, ml_6, ml_7, ml_8, ml_9, ml_10, ml_11, ml_12, ml_13, ml_14, ml_16, ml_31, ml_32, ml_40, ml_42, ml_48, ml_50, ml_57, ml_59, ml_60, ml_63, ml_98, ml_100, ml_103, ml_104, ml_105, ml_106, ml_107, ml_108, ml_109, ml_110, ml_111, ml_112, ml_113, ml_114, ml_115, ml_120, ml_127, ml_176, ml_180, ml_200, ml_254, ml_255, ml_256, ml_300, ml_728, ml_832, ml_65536, q1, q3, c4, p, eh, p5]
          · have e1 := q2' b hb
            have e2 := q4' b
            have e3 := mr_of hb (g := g) (w := 4) (by omega) (by decide)
            have e4 := mr_held hb hk hm
            simp (discharger := omega) only [f_X10_loads, nI_add, mt_mul, nI_clamp, nI_leI, nI_ltI, nI_eq, mt_in_t, mt_b1, mt_b2, mt_b3, mt_b4, mt_l, mt_g, ↓reduceIte, Nat.reduceEqDiff, Nat.reduceLeDiff, ml_0, ml_1, ml_2, ml_3, ml_4, ml_5, ml_6, ml_7, ml_8, ml_9, ml_10, ml_11, ml_12, ml_13, ml_14, ml_16, ml_31, ml_32, ml_40, ml_42, ml_48, ml_50, ml_57, ml_59, ml_60, ml_63, ml_98, ml_100, ml_103, ml_104, ml_105, ml_106, ml_107, ml_108, ml_109, ml_110, ml_111, ml_112, ml_113, ml_114, ml_115, ml_120, ml_127, ml_176, ml_180, ml_200, ml_254, ml_255, ml_256, ml_300, ml_728, ml_832, ml_65536, e1, e2, e3, e4, p, p6]
      · right
        refine ⟨3, 2, Or.inr (Or.inl ⟨rfl, rfl⟩), ?_, fun b hb => ?_⟩
        · simp (discharger := omega) only [f_X7_faultOfLoading, nI_add, mt_mul, nI_clamp, nI_leI, nI_ltI, nI_eq, mt_in_t, mt_b1, mt_b2, mt_b3, mt_b4, mt_l, mt_g, ↓reduceIte, Nat.reduceEqDiff, Nat.reduceLeDiff, ml_0, ml_1, ml_2, ml_3, ml_4, ml_5, ml_6, ml_7, ml_8, ml_9, ml_10, ml_11, ml_12, ml_13, ml_14, ml_16, ml_31, ml_32, ml_40, ml_42, ml_48, ml_50, ml_57, ml_59, ml_60, ml_63, ml_98, ml_100, ml_103, ml_104, ml_105, ml_106, ml_107, ml_108, ml_109, ml_110, ml_111, ml_112, ml_113, ml_114, ml_115, ml_120, ml_127, ml_176, ml_180, ml_200, ml_254, ml_255, ml_256, ml_300, ml_728, ml_832, ml_65536, q1, q3, c4, p]
        · have e1 := q2' b hb
          have e2 := q4' b
          have e3 := mr_of hb (g := g) (w := 4) (by omega) (by decide)
          simp (discharger := omega) only [f_X10_loads, nI_add, mt_mul, nI_clamp, nI_leI, nI_ltI, nI_eq, mt_in_t, mt_b1, mt_b2, mt_b3, mt_b4, mt_l, mt_g, ↓reduceIte, Nat.reduceEqDiff, Nat.reduceLeDiff, ml_0, ml_1, ml_2, ml_3, ml_4, ml_5, ml_6, ml_7, ml_8, ml_9, ml_10, ml_11, ml_12, ml_13, ml_14, ml_16, ml_31, ml_32, ml_40, ml_42, ml_48, ml_50, ml_57, ml_59, ml_60, ml_63, ml_98, ml_100, ml_103, ml_104, ml_105, ml_106, ml_107, ml_108, ml_109, ml_110, ml_111, ml_112, ml_113, ml_114, ml_115, ml_120, ml_127, ml_176, ml_180, ml_200, ml_254, ml_255, ml_256, ml_300, ml_728, ml_832, ml_65536, e1, e2, e3, p]
    · right
      refine ⟨1, 1, Or.inl ⟨rfl, rfl⟩, ?_, fun b hb => ?_⟩
      · simp (discharger := omega) only [f_X7_faultOfLoading, nI_add, mt_mul, nI_clamp, nI_leI, nI_ltI, nI_eq, mt_in_t, mt_b1, mt_b2, mt_b3, mt_b4, mt_l, mt_g, ↓reduceIte, Nat.reduceEqDiff, Nat.reduceLeDiff, ml_0, ml_1, ml_2, ml_3, ml_4, ml_5, ml_6, ml_7, ml_8, ml_9, ml_10, ml_11, ml_12, ml_13, ml_14, ml_16, ml_31, ml_32, ml_40, ml_42, ml_48, ml_50, ml_57, ml_59, ml_60, ml_63, ml_98, ml_100, ml_103, ml_104, ml_105, ml_106, ml_107, ml_108, ml_109, ml_110, ml_111, ml_112, ml_113, ml_114, ml_115, ml_120, ml_127, ml_176, ml_180, ml_200, ml_254, ml_255, ml_256, ml_300, ml_728, ml_832, ml_65536, q1, q3]
      · have e1 := q2' b hb
        rcases mt_mac μ b x2 with ⟨m, hm, rfl, z, -⟩ | ⟨-, e2⟩
        · rw [z] at q3
          have := (nI_eq (by omega) (by omega)).mp (Option.some.inj q3)
          omega
        · simp (discharger := omega) only [f_X10_loads, nI_add, mt_mul, nI_clamp, nI_leI, nI_ltI, nI_eq, mt_in_t, mt_b1, mt_b2, mt_b3, mt_b4, mt_l, mt_g, ↓reduceIte, Nat.reduceEqDiff, Nat.reduceLeDiff, ml_0, ml_1, ml_2, ml_3, ml_4, ml_5, ml_6, ml_7, ml_8, ml_9, ml_10, ml_11, ml_12, ml_13, ml_14, ml_16, ml_31, ml_32, ml_40, ml_42, ml_48, ml_50, ml_57, ml_59, ml_60, ml_63, ml_98, ml_100, ml_103, ml_104, ml_105, ml_106, ml_107, ml_108, ml_109, ml_110, ml_111, ml_112, ml_113, ml_114, ml_115, ml_120, ml_127, ml_176, ml_180, ml_200, ml_254, ml_255, ml_256, ml_300, ml_728, ml_832, ml_65536, e1, e2]
  · right
    refine ⟨1, 1, Or.inl ⟨rfl, rfl⟩, ?_, fun b hb => ?_⟩
    · simp (discharger := omega) only [f_X7_faultOfLoading, nI_add, mt_mul, nI_clamp, nI_leI, nI_ltI, nI_eq, mt_in_t, mt_b1, mt_b2, mt_b3, mt_b4, mt_l, mt_g, ↓reduceIte, Nat.reduceEqDiff, Nat.reduceLeDiff, ml_0, ml_1, ml_2, ml_3, ml_4, ml_5, ml_6, ml_7, ml_8, ml_9, ml_10, ml_11, ml_12, ml_13, ml_14, ml_16, ml_31, ml_32, ml_40, ml_42, ml_48, ml_50, ml_57, ml_59, ml_60, ml_63, ml_98, ml_100, ml_103, ml_104, ml_105, ml_106, ml_107, ml_108, ml_109, ml_110, ml_111, ml_112, ml_113, ml_114, ml_115, ml_120, ml_127, ml_176, ml_180, ml_200, ml_254, ml_255, ml_256, ml_300, ml_728, ml_832, ml_65536, q1]
    · have e1 : f_X10_isGarment b x1 = some (nI 0) := by
        have rn := mt_at hb (i := 0) (by decide)
        have rn0 := mt_at hM0 (i := 0) (by decide)
        have : f_X10_isGarment b x1 = f_X10_isGarment μ0 x1 := by
          unfold f_X10_isGarment
          rw [show (0 : Int32).toNatClampNeg = 0 from rfl, rn, rn0]
          rfl
        rw [this]
        exact q2
      simp (discharger := omega) only [f_X10_loads, nI_add, mt_mul, nI_clamp, nI_leI, nI_ltI, nI_eq, mt_in_t, mt_b1, mt_b2, mt_b3, mt_b4, mt_l, mt_g, ↓reduceIte, Nat.reduceEqDiff, Nat.reduceLeDiff, ml_0, ml_1, ml_2, ml_3, ml_4, ml_5, ml_6, ml_7, ml_8, ml_9, ml_10, ml_11, ml_12, ml_13, ml_14, ml_16, ml_31, ml_32, ml_40, ml_42, ml_48, ml_50, ml_57, ml_59, ml_60, ml_63, ml_98, ml_100, ml_103, ml_104, ml_105, ml_106, ml_107, ml_108, ml_109, ml_110, ml_111, ml_112, ml_113, ml_114, ml_115, ml_120, ml_127, ml_176, ml_180, ml_200, ml_254, ml_255, ml_256, ml_300, ml_728, ml_832, ml_65536, e1]
theorem mr_loads {g m : Nat} (hok : mt_ok B σ) (hg : g < σ 0) (hm : m < 2) (h0 : σ (4 + 6 * g + 4) = 0) (h5 : ms_held σ m < 5) : mt_op σ (ms_up σ (4 + 6 * g + 4) (m + 1)) (ms_held σ m + 1) (fun b => f_X10_loads b (nI g) (nI m)) := by
  intro b hb
  have hk := hok.1
  have h16 := hk.1
  obtain ⟨hok', hh⟩ := ms_load_ok hok hg hm h0 h5
  have e1 : f_X10_isGarment b (nI g) = some (nI 1) := by
    have rn := mt_at hb (i := 0) (by decide)
    have h1 : ¬ g < 0 := by omega
    have h2 : ¬ σ 0 - 1 < g := by omega
    have h3 : nI (σ 0) - nI 1 = nI (σ 0 - 1) := mt_sub (by omega)
    simp (discharger := omega) only [f_X10_isGarment, f_X10_in, nI_add, mt_mul, nI_clamp, nI_leI, nI_ltI, nI_eq, mt_in_t, mt_b1, mt_b2, mt_b3, mt_b4, mt_l, mt_g, ↓reduceIte, Nat.reduceEqDiff, Nat.reduceLeDiff, ml_0, ml_1, ml_2, ml_3, ml_4, ml_5, ml_6, ml_7, ml_8, ml_9, ml_10, ml_11, ml_12, ml_13, ml_14, ml_16, ml_31, ml_32, ml_40, ml_42, ml_48, ml_50, ml_57, ml_59, ml_60, ml_63, ml_98, ml_100, ml_103, ml_104, ml_105, ml_106, ml_107, ml_108, ml_109, ml_110, ml_111, ml_112, ml_113, ml_114, ml_115, ml_120, ml_127, ml_176, ml_180, ml_200, ml_254, ml_255, ml_256, ml_300, ml_728, ml_832, ml_65536, rn, h1, h2, h3, mt_bo]
  have e2 := mr_isMachine (μ := b) hm
  have e3 := mr_of hb (g := g) (w := 4) (by omega) (by decide)
  have e4 := mr_held hb hk hm
  have hM' := mt_M_u0 (k := 4 + 6 * g + 4) (v := m + 1) hb
  have e5 := mr_held hM' hok'.1 hm
  rw [hh] at e5
  have n5 : ¬ ms_held σ m = 5 := by omega
  refine ⟨fw_u (fw_u b 0 19 (4 + 6 * g + 4) (nI (m + 1))) 0 18 15 (nI (ms_held σ m + 1)), ?_, mt_M_k hM' (fw_u_o (by omega)), mt_fr_a (mt_fr_a mt_fr_r (by decide)) (by decide), mt_uy rfl, fun i hi => by rw [mt_un (by omega), mt_un (by omega)]⟩
  simp (discharger := omega) only [f_X10_loads, f_X10_done, mr_sets, nI_add, mt_mul, nI_clamp, nI_leI, nI_ltI, nI_eq, mt_in_t, mt_b1, mt_b2, mt_b3, mt_b4, mt_l, mt_g, ↓reduceIte, Nat.reduceEqDiff, Nat.reduceLeDiff, ml_0, ml_1, ml_2, ml_3, ml_4, ml_5, ml_6, ml_7, ml_8, ml_9, ml_10, ml_11, ml_12, ml_13, ml_14, ml_16, ml_31, ml_32, ml_40, ml_42, ml_48, ml_50, ml_57, ml_59, ml_60, ml_63, ml_98, ml_100, ml_103, ml_104, ml_105, ml_106, ml_107, ml_108, ml_109, ml_110, ml_111, ml_112, ml_113, ml_114, ml_115, ml_120, ml_127, ml_176, ml_180, ml_200, ml_254, ml_255, ml_256, ml_300, ml_728, ml_832, ml_65536, e1, e2, e3, e4, e5, h0, n5]
theorem pc_load (hR : mt_R B μ) (x1 x2 : Int32) : mt_A B Eq (fun k t => (k = 1 ∧ t = 1) ∨ (k = 4 ∧ t = 2) ∨ (k = 3 ∧ t = 3)) (f_X9_load μ x1 x2) (fun m => f_X10_load m x1 x2) := by
  obtain ⟨⟨σ, hS⟩, ⟨k, h, hk8, hHC, hHM, hHo⟩, hrest⟩ := id hR
  obtain ⟨hC, hM, hok⟩ := id hS
  rcases mt_loadArgs hC hok x1 x2 hM with ⟨g, m, hg, hm, h0, h5, rfl, rfl, e0⟩ | ⟨r, t, hrt, e0, e1⟩
  · obtain ⟨a1, e1, HC1, F1⟩ := mc_remember hHC hk8 hC hok.1
    have C1 : mt_C a1 0 σ := mt_C_k hC (fun f hf => F1 0 f (by omega))
    have h16 := hok.1.1
    have C2 : mt_C (fw_u a1 0 5 g (nI (m + 1))) 0 (ms_up σ (4 + 6 * g + 4) (m + 1)) := mt_C_up (j := 0) (w := 4) (v := m + 1) C1 h16 hg (by decide)
    obtain ⟨hok', hh⟩ := ms_load_ok hok hg hm h0 h5
    have e3 := mc_countIn C2 hok'.1 hm
    rw [hh] at e3
    have e3' : f_X7_countIn (fw_u a1 0 5 g (nI (m + 1))) 0 (nI m) = some (nI (ms_held σ m + 1)) := e3
    obtain ⟨μ2, e4, t4, R4⟩ := mt_commit hR hk8 hHM hHo hS HC1 F1 C2 (mt_fr_u (mt_sC_t (by decide))) (Nat.le_refl B) hok' (mr_loads hok hg hm h0 h5)
    refine ⟨fw_u a1 0 5 g (nI (m + 1)), nI (ms_held σ m + 1), 0, μ2, nI (ms_held σ m + 1), 0, ?_, ?_, t4, R4, Or.inl ⟨rfl, rfl, rfl⟩⟩
    · simp (discharger := omega) only [f_X9_load, f_X9_raise, f_X7_putIntoMachine, Nat.add_comm 1, nI_add, mt_mul, nI_clamp, nI_leI, nI_ltI, nI_eq, mt_in_t, mt_b1, mt_b2, mt_b3, mt_b4, mt_l, mt_g, ↓reduceIte, Nat.reduceEqDiff, Nat.reduceLeDiff, ml_0, ml_1, ml_2, ml_3, ml_4, ml_5, ml_6, ml_7, ml_8, ml_9, ml_10, ml_11, ml_12, ml_13, ml_14, ml_16, ml_31, ml_32, ml_40, ml_42, ml_48, ml_50, ml_57, ml_59, ml_60, ml_63, ml_98, ml_100, ml_103, ml_104, ml_105, ml_106, ml_107, ml_108, ml_109, ml_110, ml_111, ml_112, ml_113, ml_114, ml_115, ml_120, ml_127, ml_176, ml_180, ml_200, ml_254, ml_255, ml_256, ml_300, ml_728, ml_832, ml_65536, e0, e1, e3']
    · exact e4
  · have ht0 : t ≠ 0 ∧ t < 100 := by unfold mt_rz at hrt; omega
    obtain ⟨μ2, e3, t3, R3⟩ := mt_refuse (σ := σ) (R := fun m1 => f_X10_loads m1 x1 x2) hR hM ht0.1 ht0.2 e1
    have hk : ∃ k, f_X9_raise μ (nI r) = some (μ, (), k) ∧ k ≠ 0 ∧ ((k = 1 ∧ t = 1) ∨ (k = 4 ∧ t = 2) ∨ (k = 3 ∧ t = 3)) := by
      rcases hrt with ⟨rfl, rfl⟩ | ⟨rfl, rfl⟩ | ⟨rfl, rfl⟩
      · exact ⟨1, by simp (discharger := omega) only [f_X9_raise, nI_add, mt_mul, nI_clamp, nI_leI, nI_ltI, nI_eq, mt_in_t, mt_b1, mt_b2, mt_b3, mt_b4, mt_l, mt_g, ↓reduceIte, Nat.reduceEqDiff, Nat.reduceLeDiff, ml_0, ml_1, ml_2, ml_3, ml_4, ml_5, ml_6, ml_7, ml_8, ml_9, ml_10, ml_11, ml_12, ml_13, ml_14, ml_16, ml_31, ml_32, ml_40, ml_42, ml_48, ml_50, ml_57, ml_59, ml_60, ml_63, ml_98, ml_100, ml_103, ml_104, ml_105, ml_106, ml_107, ml_108, ml_109, ml_110, ml_111, ml_112, ml_113, ml_114, ml_115, ml_120, ml_127, ml_176, ml_180, ml_200, ml_254, ml_255, ml_256, ml_300, ml_728, ml_832, ml_65536], by decide, Or.inl ⟨rfl, rfl⟩⟩
      · exact ⟨4, by simp (discharger := omega) only [f_X9_raise, nI_add, mt_mul, nI_clamp, nI_leI, nI_ltI, nI_eq, mt_in_t, mt_b1, mt_b2, mt_b3, mt_b4, mt_l, mt_g, ↓reduceIte, Nat.reduceEqDiff, Nat.reduceLeDiff, ml_0, ml_1, ml_2, ml_3, ml_4, ml_5, ml_6, ml_7, ml_8, ml_9, ml_10, ml_11, ml_12, ml_13, ml_14, ml_16, ml_31, ml_32, ml_40, ml_42, ml_48, ml_50, ml_57, ml_59, ml_60, ml_63, ml_98, ml_100, ml_103, ml_104, ml_105, ml_106, ml_107, ml_108, ml_109, ml_110, ml_111, ml_112, ml_113, ml_114, ml_115, ml_120, ml_127, ml_176, ml_180, ml_200, ml_254, ml_255, ml_256, ml_300, ml_728, ml_832, ml_65536], by decide, Or.inr (Or.inl ⟨rfl, rfl⟩)⟩
      · exact ⟨3, by simp (discharger := omega) only [f_X9_raise, nI_add, mt_mul, nI_clamp, nI_leI, nI_ltI, nI_eq, mt_in_t, mt_b1, mt_b2, mt_b3, mt_b4, mt_l, mt_g, ↓reduceIte, Nat.reduceEqDiff, Nat.reduceLeDiff, ml_0, ml_1, ml_2, ml_3, ml_4, ml_5, ml_6, ml_7, ml_8, ml_9, ml_10, ml_11, ml_12, ml_13, ml_14, ml_16, ml_31, ml_32, ml_40, ml_42, ml_48, ml_50, ml_57, ml_59, ml_60, ml_63, ml_98, ml_100, ml_103, ml_104, ml_105, ml_106, ml_107, ml_108, ml_109, ml_110, ml_111, ml_112, ml_113, ml_114, ml_115, ml_120, ml_127, ml_176, ml_180, ml_200, ml_254, ml_255, ml_256, ml_300, ml_728, ml_832, ml_65536], by decide, Or.inr (Or.inr ⟨rfl, rfl⟩)⟩
    obtain ⟨kk, e4, hk0, hke⟩ := hk
    refine ⟨μ, nI 0, kk, μ2, nI 0, t, ?_, e3, t3, R3, Or.inr hke⟩
    simp (discharger := omega) only [f_X9_load, nI_add, mt_mul, nI_clamp, nI_leI, nI_ltI, nI_eq, mt_in_t, mt_b1, mt_b2, mt_b3, mt_b4, mt_l, mt_g, ↓reduceIte, Nat.reduceEqDiff, Nat.reduceLeDiff, ml_0, ml_1, ml_2, ml_3, ml_4, ml_5, ml_6, ml_7, ml_8, ml_9, ml_10, ml_11, ml_12, ml_13, ml_14, ml_16, ml_31, ml_32, ml_40, ml_42, ml_48, ml_50, ml_57, ml_59, ml_60, ml_63, ml_98, ml_100, ml_103, ml_104, ml_105, ml_106, ml_107, ml_108, ml_109, ml_110, ml_111, ml_112, ml_113, ml_114, ml_115, ml_120, ml_127, ml_176, ml_180, ml_200, ml_254, ml_255, ml_256, ml_300, ml_728, ml_832, ml_65536, e0, e4, hk0]
theorem mr_gar1 {b : fw_M} {g : Nat} (hb : mt_M b 19 0 σ) (h16 : σ 0 ≤ 16) (hg : g < σ 0) : f_X10_isGarment b (nI g) = some (nI 1) := by
  have rn := mt_at hb (i := 0) (by decide)
  have h1 : ¬ g < 0 := by omega
  have h2 : ¬ σ 0 - 1 < g := by omega
  have h3 : nI (σ 0) - nI 1 = nI (σ 0 - 1) := mt_sub (by omega)
  simp (discharger := omega) only [f_X10_isGarment, f_X10_in, nI_add, mt_mul, nI_clamp, nI_leI, nI_ltI, nI_eq, mt_in_t, mt_b1, mt_b2, mt_b3, mt_b4, mt_l, mt_g, ↓reduceIte, Nat.reduceEqDiff, Nat.reduceLeDiff, ml_0, ml_1, ml_2, ml_3, ml_4, ml_5, ml_6, ml_7, ml_8, ml_9, ml_10, ml_11, ml_12, ml_13, ml_14, ml_16, ml_31, ml_32, ml_40, ml_42, ml_48, ml_50, ml_57, ml_59, ml_60, ml_63, ml_98, ml_100, ml_103, ml_104, ml_105, ml_106, ml_107, ml_108, ml_109, ml_110, ml_111, ml_112, ml_113, ml_114, ml_115, ml_120, ml_127, ml_176, ml_180, ml_200, ml_254, ml_255, ml_256, ml_300, ml_728, ml_832, ml_65536, rn, h1, h2, h3, mt_bo]
theorem mr_gar0 {b : fw_M} {x : Int32} (hM0 : mt_M μ 19 0 σ) (hb : mt_M b 19 0 σ) (q : f_X10_isGarment μ x = some (nI 0)) : f_X10_isGarment b x = some (nI 0) := by
  have rn := mt_at hb (i := 0) (by decide)
  have rn0 := mt_at hM0 (i := 0) (by decide)
  have : f_X10_isGarment b x = f_X10_isGarment μ x := by
    unfold f_X10_isGarment
    rw [show (0 : Int32).toNatClampNeg = 0 from rfl, rn, rn0]
    rfl
  rw [this]
  exact q
theorem mt_takeArgs {μ0 : fw_M} (hC : mt_C μ 0 σ) (hok : mt_ok B σ) (x1 : Int32) (hM0 : mt_M μ0 19 0 σ) : (∃ g, g < σ 0 ∧ σ (4 + 6 * g + 4) ≠ 0 ∧ σ (4 + 6 * g + 4) ≠ 3 ∧ x1 = nI g ∧ f_X7_faultOfTakingOut μ 0 x1 = some (nI 0)) ∨ ∃ r t, ((r = 1 ∧ t = 1) ∨ (r = 3 ∧ t = 2)) ∧ f_X7_faultOfTakingOut μ 0 x1 = some (nI r) ∧ ∀ b, mt_M b 19 0 σ → f_X10_takes b x1 = some (b, nI t) := by
  have hk := hok.1
  have h16 := hk.1
  rcases mt_gar (B := B) hC hM0 hk x1 with ⟨g, hg, rfl, q1, q2⟩ | ⟨q1, q2⟩
  · have c4 : μ 0 5 g = nI (σ (4 + 6 * g + 4)) := mt_C_g hC (w := 4) (by decide) hg
    have b4 := (hk.2 g hg).2.2.2.2
    by_cases p : σ (4 + 6 * g + 4) = 0
    · right
      refine ⟨3, 2, Or.inr ⟨rfl, rfl⟩, ?_, fun b hb => ?_⟩
      · simp (discharger := omega) only [f_X7_faultOfTakingOut, nI_add, mt_mul, nI_clamp, nI_leI, nI_ltI, nI_eq, mt_in_t, mt_b1, mt_b2, mt_b3, mt_b4, mt_l, mt_g, ↓reduceIte, Nat.reduceEqDiff, Nat.reduceLeDiff, ml_0, ml_1, ml_2, ml_3, ml_4, ml_5, ml_6, ml_7, ml_8, ml_9, ml_10, ml_11, ml_12, ml_13, ml_14, ml_16, ml_31, ml_32, ml_40, ml_42, ml_48, ml_50, ml_57, ml_59, ml_60, ml_63, ml_98, ml_100, ml_103, ml_104, ml_105, ml_106, ml_107, ml_108, ml_109, ml_110, ml_111, ml_112, ml_113, ml_114, ml_115, ml_120, ml_127, ml_176, ml_180, ml_200, ml_254, ml_255, ml_256, ml_300, ml_728, ml_832, ml_65536, q1, c4, p]
      · have e1 := mr_gar1 hb h16 hg
        have e3 := mr_of hb (g := g) (w := 4) (by omega) (by decide)
        simp (discharger := omega) only [f_X10_takes, nI_add, mt_mul, nI_clamp, nI_leI, nI_ltI, nI_eq, mt_in_t, mt_b1, mt_b2, mt_b3, mt_b4, mt_l, mt_g, ↓reduceIte, Nat.reduceEqDiff, Nat.reduceLeDiff, ml_0, ml_1, ml_2, ml_3, ml_4, ml_5, ml_6, ml_7, ml_8, ml_9, ml_10, ml_11, ml_12, ml_13, ml_14, ml_16, ml_31, ml_32, ml_40, ml_42, ml_48, ml_50, ml_57, ml_59, ml_60, ml_63, ml_98, ml_100, ml_103, ml_104, ml_105, ml_106, ml_107, ml_108, ml_109, ml_110, ml_111, ml_112, ml_113, ml_114, ml_115, ml_120, ml_127, ml_176, ml_180, ml_200, ml_254, ml_255, ml_256, ml_300, ml_728, ml_832, ml_65536, e1, e3, p]
    · by_cases p3 : σ (4 + 6 * g + 4) = 3
      · right
        refine ⟨3, 2, Or.inr ⟨rfl, rfl⟩, ?_, fun b hb => ?_⟩
        · simp (discharger := omega) only [f_X7_faultOfTakingOut, nI_add, mt_mul, nI_clamp, nI_leI, nI_ltI, nI_eq, mt_in_t, mt_b1, mt_b2, mt_b3, mt_b4, mt_l, mt_g, ↓reduceIte, Nat.reduceEqDiff, Nat.reduceLeDiff, ml_0, ml_1, ml_2, ml_3, ml_4, ml_5, ml_6, ml_7, ml_8, ml_9, ml_10, ml_11, ml_12, ml_13, ml_14, ml_16, ml_31, ml_32, ml_40, ml_42, ml_48, ml_50, ml_57, ml_59, ml_60, ml_63, ml_98, ml_100, ml_103, ml_104, ml_105, ml_106, ml_107, ml_108, ml_109, ml_110, ml_111, ml_112, ml_113, ml_114, ml_115, ml_120, ml_127, ml_176, ml_180, ml_200, ml_254, ml_255, ml_256, ml_300, ml_728, ml_832, ml_65536, q1, c4, p3]
        · have e1 := mr_gar1 hb h16 hg
          have e3 := mr_of hb (g := g) (w := 4) (by omega) (by decide)
          simp (discharger := omega) only [f_X10_takes, nI_add, mt_mul, nI_clamp, nI_leI, nI_ltI, nI_eq, mt_in_t, mt_b1, mt_b2, mt_b3, mt_b4, mt_l, mt_g, ↓reduceIte, Nat.reduceEqDiff, Nat.reduceLeDiff, ml_0, ml_1, ml_2, ml_3, ml_4, ml_5, ml_6, ml_7, ml_8, ml_9, ml_10, ml_11, ml_12, ml_13, ml_14, ml_16, ml_31, ml_32, ml_40, ml_42, ml_48, ml_50, ml_57, ml_59, ml_60, ml_63, ml_98, ml_100, ml_103, ml_104, ml_105, ml_106, ml_107, ml_108, ml_109, ml_110, ml_111, ml_112, ml_113, ml_114, ml_115, ml_120, ml_127, ml_176, ml_180, ml_200, ml_254, ml_255, ml_256, ml_300, ml_728, ml_832, ml_65536, e1, e3, p3]
      · left
        refine ⟨g, hg, p, p3, rfl, ?_⟩
        simp (discharger := omega) only [f_X7_faultOfTakingOut, nI_add, mt_mul, nI_clamp, nI_leI, nI_ltI, nI_eq, mt_in_t, mt_b1, mt_b2, mt_b3, mt_b4, mt_l, mt_g, ↓reduceIte, Nat.reduceEqDiff, Nat.reduceLeDiff, ml_0, ml_1, ml_2, ml_3, ml_4, ml_5, ml_6, ml_7, ml_8, ml_9, ml_10, ml_11, ml_12, ml_13, ml_14, ml_16, ml_31, ml_32, ml_40, ml_42, ml_48, ml_50, ml_57, ml_59, ml_60, ml_63, ml_98, ml_100, ml_103, ml_104, ml_105, ml_106, ml_107, ml_108, ml_109, ml_110, ml_111, ml_112, ml_113, ml_114, ml_115, ml_120, ml_127, ml_176, ml_180, ml_200, ml_254, ml_255, ml_256, ml_300, ml_728, ml_832, ml_65536, q1, c4, p, p3]
  · right
    refine ⟨1, 1, Or.inl ⟨rfl, rfl⟩, ?_, fun b hb => ?_⟩
    · simp (discharger := omega) only [f_X7_faultOfTakingOut, nI_add, mt_mul, nI_clamp, nI_leI, nI_ltI, nI_eq, mt_in_t, mt_b1, mt_b2, mt_b3, mt_b4, mt_l, mt_g, ↓reduceIte, Nat.reduceEqDiff, Nat.reduceLeDiff, ml_0, ml_1, ml_2, ml_3, ml_4, ml_5, ml_6, ml_7, ml_8, ml_9, ml_10, ml_11, ml_12, ml_13, ml_14, ml_16, ml_31, ml_32, ml_40, ml_42, ml_48, ml_50, ml_57, ml_59, ml_60, ml_63, ml_98, ml_100, ml_103, ml_104, ml_105, ml_106, ml_107, ml_108, ml_109, ml_110, ml_111, ml_112, ml_113, ml_114, ml_115, ml_120, ml_127, ml_176, ml_180, ml_200, ml_254, ml_255, ml_256, ml_300, ml_728, ml_832, ml_65536, q1]
    · have e1 := mr_gar0 hM0 hb q2
      simp (discharger := omega) only [f_X10_takes, nI_add, mt_mul, nI_clamp, nI_leI, nI_ltI, nI_eq, mt_in_t, mt_b1, mt_b2, mt_b3, mt_b4, mt_l, mt_g, ↓reduceIte, Nat.reduceEqDiff, Nat.reduceLeDiff, ml_0, ml_1, ml_2, ml_3, ml_4, ml_5, ml_6, ml_7, ml_8, ml_9, ml_10, ml_11, ml_12, ml_13, ml_14, ml_16, ml_31, ml_32, ml_40, ml_42, ml_48, ml_50, ml_57, ml_59, ml_60, ml_63, ml_98, ml_100, ml_103, ml_104, ml_105, ml_106, ml_107, ml_108, ml_109, ml_110, ml_111, ml_112, ml_113, ml_114, ml_115, ml_120, ml_127, ml_176, ml_180, ml_200, ml_254, ml_255, ml_256, ml_300, ml_728, ml_832, ml_65536, e1]
theorem mr_takes {g : Nat} (hok : mt_ok B σ) (hg : g < σ 0) (h0 : σ (4 + 6 * g + 4) ≠ 0) (h3 : σ (4 + 6 * g + 4) ≠ 3) : mt_op σ (ms_up σ (4 + 6 * g + 4) 0) (σ (4 + 6 * g + 4) - 1) (fun b => f_X10_takes b (nI g)) := by
  intro b hb
  have hk := hok.1
  have h16 := hk.1
  have b4 := (hk.2 g hg).2.2.2.2
  have e1 := mr_gar1 hb h16 hg
  have e3 := mr_of hb (g := g) (w := 4) (by omega) (by decide)
  have e5 : nI (σ (4 + 6 * g + 4)) - nI 1 = nI (σ (4 + 6 * g + 4) - 1) := mt_sub (by omega)
  refine ⟨fw_u (fw_u b 0 19 (4 + 6 * g + 4) (nI 0)) 0 18 15 (nI (σ (4 + 6 * g + 4) - 1)), ?_, mt_M_k (mt_M_u0 hb) (fw_u_o (by omega)), mt_fr_a (mt_fr_a mt_fr_r (by decide)) (by decide), mt_uy rfl, fun i hi => by rw [mt_un (by omega), mt_un (by omega)]⟩
  simp (discharger := omega) only [f_X10_takes, f_X10_done, mr_sets, nI_add, mt_mul, nI_clamp, nI_leI, nI_ltI, nI_eq, mt_in_t, mt_b1, mt_b2, mt_b3, mt_b4, mt_l, mt_g, ↓reduceIte, Nat.reduceEqDiff, Nat.reduceLeDiff, ml_0, ml_1, ml_2, ml_3, ml_4, ml_5, ml_6, ml_7, ml_8, ml_9, ml_10, ml_11, ml_12, ml_13, ml_14, ml_16, ml_31, ml_32, ml_40, ml_42, ml_48, ml_50, ml_57, ml_59, ml_60, ml_63, ml_98, ml_100, ml_103, ml_104, ml_105, ml_106, ml_107, ml_108, ml_109, ml_110, ml_111, ml_112, ml_113, ml_114, ml_115, ml_120, ml_127, ml_176, ml_180, ml_200, ml_254, ml_255, ml_256, ml_300, ml_728, ml_832, ml_65536, e1, e3, e5, h0, h3]
theorem pc_takeOut (hR : mt_R B μ) (x1 : Int32) : mt_A B Eq (fun k t => (k = 1 ∧ t = 1) ∨ (k = 4 ∧ t = 2)) (f_X9_takeOut μ x1) (fun m => f_X10_takeOut m x1) := by
  obtain ⟨⟨σ, hS⟩, ⟨k, h, hk8, hHC, hHM, hHo⟩, hrest⟩ := id hR
  obtain ⟨hC, hM, hok⟩ := id hS
  rcases mt_takeArgs hC hok x1 hM with ⟨g, hg, h0, h3, rfl, e0⟩ | ⟨r, t, hrt, e0, e1⟩
  · obtain ⟨a1, e1, HC1, F1⟩ := mc_remember hHC hk8 hC hok.1
    have C1 : mt_C a1 0 σ := mt_C_k hC (fun f hf => F1 0 f (by omega))
    have h16 := hok.1.1
    have b4 := (hok.1.2 g hg).2.2.2.2
    have C2 : mt_C (fw_u a1 0 5 g (nI 0)) 0 (ms_up σ (4 + 6 * g + 4) 0) := mt_C_up (j := 0) (w := 4) (v := 0) C1 h16 hg (by decide)
    have c4 : a1 0 5 g = nI (σ (4 + 6 * g + 4)) := mt_C_g C1 (w := 4) (by decide) hg
    have e5 : nI (σ (4 + 6 * g + 4)) - nI 1 = nI (σ (4 + 6 * g + 4) - 1) := mt_sub (by omega)
    obtain ⟨μ2, e4, t4, R4⟩ := mt_commit hR hk8 hHM hHo hS HC1 F1 C2 (mt_fr_u (mt_sC_t (by decide))) (Nat.le_refl B) (ms_take_ok hok hg) (mr_takes hok hg h0 h3)
    refine ⟨fw_u a1 0 5 g (nI 0), nI (σ (4 + 6 * g + 4) - 1), 0, μ2, nI (σ (4 + 6 * g + 4) - 1), 0, ?_, ?_, t4, R4, Or.inl ⟨rfl, rfl, rfl⟩⟩
    · simp (discharger := omega) only [f_X9_takeOut, f_X9_raise, f_X7_putBackIntoBag, nI_add, mt_mul, nI_clamp, nI_leI, nI_ltI, nI_eq, mt_in_t, mt_b1, mt_b2, mt_b3, mt_b4, mt_l, mt_g, ↓reduceIte, Nat.reduceEqDiff, Nat.reduceLeDiff, ml_0, ml_1, ml_2, ml_3, ml_4, ml_5, ml_6, ml_7, ml_8, ml_9, ml_10, ml_11, ml_12, ml_13, ml_14, ml_16, ml_31, ml_32, ml_40, ml_42, ml_48, ml_50, ml_57, ml_59, ml_60, ml_63, ml_98, ml_100, ml_103, ml_104, ml_105, ml_106, ml_107, ml_108, ml_109, ml_110, ml_111, ml_112, ml_113, ml_114, ml_115, ml_120, ml_127, ml_176, ml_180, ml_200, ml_254, ml_255, ml_256, ml_300, ml_728, ml_832, ml_65536, e0, e1, c4, e5]
    · exact e4
  · have ht0 : t ≠ 0 ∧ t < 100 := by omega
    obtain ⟨μ2, e3, t3, R3⟩ := mt_refuse (σ := σ) (R := fun m1 => f_X10_takes m1 x1) hR hM ht0.1 ht0.2 e1
    have hk : ∃ k, f_X9_raise μ (nI r) = some (μ, (), k) ∧ k ≠ 0 ∧ ((k = 1 ∧ t = 1) ∨ (k = 4 ∧ t = 2)) := by
      rcases hrt with ⟨rfl, rfl⟩ | ⟨rfl, rfl⟩
      · exact ⟨1, by simp (discharger := omega) only [f_X9_raise, nI_add, mt_mul, nI_clamp, nI_leI, nI_ltI, nI_eq, mt_in_t, mt_b1, mt_b2, mt_b3, mt_b4, mt_l, mt_g, ↓reduceIte, Nat.reduceEqDiff, Nat.reduceLeDiff, ml_0, ml_1, ml_2, ml_3, ml_4, ml_5, ml_6, ml_7, ml_8, ml_9, ml_10, ml_11, ml_12, ml_13, ml_14, ml_16, ml_31, ml_32, ml_40, ml_42, ml_48, ml_50, ml_57, ml_59, ml_60, ml_63, ml_98, ml_100, ml_103, ml_104, ml_105, ml_106, ml_107, ml_108, ml_109, ml_110, ml_111, ml_112, ml_113, ml_114, ml_115, ml_120, ml_127, ml_176, ml_180, ml_200, ml_254, ml_255, ml_256, ml_300, ml_728, ml_832, ml_65536], by decide, Or.inl ⟨rfl, rfl⟩⟩
      · exact ⟨4, by simp (discharger := omega) only [f_X9_raise, nI_add, mt_mul, nI_clamp, nI_leI, nI_ltI, nI_eq, mt_in_t, mt_b1, mt_b2, mt_b3, mt_b4, mt_l, mt_g, ↓reduceIte, Nat.reduceEqDiff, Nat.reduceLeDiff, ml_0, ml_1, ml_2, ml_3, ml_4, ml_5, ml_6, ml_7, ml_8, ml_9, ml_10, ml_11, ml_12, ml_13, ml_14, ml_16, ml_31, ml_32, ml_40, ml_42, ml_48, ml_50, ml_57, ml_59, ml_60, ml_63, ml_98, ml_100, ml_103, ml_104, ml_105, ml_106, ml_107, ml_108, ml_109, ml_110, ml_111, ml_112, ml_113, ml_114, ml_115, ml_120, ml_127, ml_176, ml_180, ml_200, ml_254, ml_255, ml_256, ml_300, ml_728, ml_832, ml_65536], by decide, Or.inr ⟨rfl, rfl⟩⟩
    obtain ⟨kk, e4, hk0, hke⟩ := hk
    refine ⟨μ, nI 0, kk, μ2, nI 0, t, ?_, e3, t3, R3, Or.inr hke⟩
    simp (discharger := omega) only [f_X9_takeOut, nI_add, mt_mul, nI_clamp, nI_leI, nI_ltI, nI_eq, mt_in_t, mt_b1, mt_b2, mt_b3, mt_b4, mt_l, mt_g, ↓reduceIte, Nat.reduceEqDiff, Nat.reduceLeDiff, ml_0, ml_1, ml_2, ml_3, ml_4, ml_5, ml_6, ml_7, ml_8, ml_9, ml_10, ml_11, ml_12, ml_13, ml_14, ml_16, ml_31, ml_32, ml_40, ml_42, ml_48, ml_50, ml_57, ml_59, ml_60, ml_63, ml_98, ml_100, ml_103, ml_104, ml_105, ml_106, ml_107, ml_108, ml_109, ml_110, ml_111, ml_112, ml_113, ml_114, ml_115, ml_120, ml_127, ml_176, ml_180, ml_200, ml_254, ml_255, ml_256, ml_300, ml_728, ml_832, ml_65536, e0, e4, hk0]
theorem mt_rg2 (x : Int32) : (∃ v, 40 ≤ v ∧ v ≤ 180 ∧ x = nI v) ∨ x < nI 40 ∨ nI 180 < x := by
  by_cases h1 : x < nI 40
  · exact Or.inr (Or.inl h1)
  · by_cases h2 : nI 180 < x
    · exact Or.inr (Or.inr h2)
    · left
      have h0 : ¬ x < 0 := fun z => h1 (by
        rw [Int32.lt_iff_toInt_lt] at z ⊢
        rw [nI_toInt (by decide)]
        have : (0 : Int32).toInt = 0 := rfl
        omega)
      obtain ⟨v, hv, rfl⟩ := nI_of h0
      rw [nI_ltI hv (by omega)] at h1
      rw [nI_ltI (by omega) hv] at h2
      exact ⟨v, by omega, by omega, rfl⟩
theorem mt_heatArgs (x1 x2 : Int32) : (∃ m v, m < 2 ∧ 40 ≤ v ∧ v ≤ 180 ∧ x1 = nI m ∧ x2 = nI v ∧ f_X7_faultOfHeating μ 0 x1 x2 = some (nI 0)) ∨ ∃ r t, ((r = 1 ∧ t = 1) ∨ (r = 2 ∧ t = 2)) ∧ f_X7_faultOfHeating μ 0 x1 x2 = some (nI r) ∧ ∀ b, f_X10_heats b x1 x2 = some (b, nI t) := by
  rcases mt_mac μ μ x1 with ⟨m, hm, rfl, q3, q4⟩ | ⟨q3, q4⟩
  · rcases mt_rg2 x2 with ⟨v, h1, h2, rfl⟩ | h
    · left
      have z1 : ¬ v < 40 := by omega
      have z2 : ¬ 180 < v := by omega
      refine ⟨m, v, hm, h1, h2, rfl, rfl, ?_⟩
      simp (discharger := omega) only [f_X7_faultOfHeating, nI_add, mt_mul, nI_clamp, nI_leI, nI_ltI, nI_eq, mt_in_t, mt_b1, mt_b2, mt_b3, mt_b4, mt_l, mt_g, ↓reduceIte, Nat.reduceEqDiff, Nat.reduceLeDiff, ml_0, ml_1, ml_2, ml_3, ml_4, ml_5, ml_6, ml_7, ml_8, ml_9, ml_10, ml_11, ml_12, ml_13, ml_14, ml_16, ml_31, ml_32, ml_40, ml_42, ml_48, ml_50, ml_57, ml_59, ml_60, ml_63, ml_98, ml_100, ml_103, ml_104, ml_105, ml_106, ml_107, ml_108, ml_109, ml_110, ml_111, ml_112, ml_113, ml_114, ml_115, ml_120, ml_127, ml_176, ml_180, ml_200, ml_254, ml_255, ml_256, ml_300, ml_728, ml_832, ml_65536, q3, z1, z2]
    · right
      refine ⟨2, 2, Or.inr ⟨rfl, rfl⟩, ?_, fun b => ?_⟩
      · by_cases z : x2 < nI 40
        · simp (discharger := omega) only [f_X7_faultOfHeating, nI_add, mt_mul, nI_clamp, nI_leI, nI_ltI, nI_eq, mt_in_t, mt_b1, mt_b2, mt_b3, mt_b4, mt_l, mt_g, ↓reduceIte, Nat.reduceEqDiff, Nat.reduceLeDiff, ml_0, ml_1, ml_2, ml_3, ml_4, ml_5, ml_6, ml_7, ml_8, ml_9, ml_10, ml_11, ml_12, ml_13, ml_14, ml_16, ml_31, ml_32, ml_40, ml_42, ml_48, ml_50, ml_57, ml_59, ml_60, ml_63, ml_98, ml_100, ml_103, ml_104, ml_105, ml_106, ml_107, ml_108, ml_109, ml_110, ml_111, ml_112, ml_113, ml_114, ml_115, ml_120, ml_127, ml_176, ml_180, ml_200, ml_254, ml_255, ml_256, ml_300, ml_728, ml_832, ml_65536, q3, z]
        · rcases h with h | h
          · exact absurd h z
          · simp (discharger := omega) only [f_X7_faultOfHeating, nI_add, mt_mul, nI_clamp, nI_leI, nI_ltI, nI_eq, mt_in_t, mt_b1, mt_b2, mt_b3, mt_b4, mt_l, mt_g, ↓reduceIte, Nat.reduceEqDiff, Nat.reduceLeDiff, ml_0, ml_1, ml_2, ml_3, ml_4, ml_5, ml_6, ml_7, ml_8, ml_9, ml_10, ml_11, ml_12, ml_13, ml_14, ml_16, ml_31, ml_32, ml_40, ml_42, ml_48, ml_50, ml_57, ml_59, ml_60, ml_63, ml_98, ml_100, ml_103, ml_104, ml_105, ml_106, ml_107, ml_108, ml_109, ml_110, ml_111, ml_112, ml_113, ml_114, ml_115, ml_120, ml_127, ml_176, ml_180, ml_200, ml_254, ml_255, ml_256, ml_300, ml_728, ml_832, ml_65536, q3, z, h]
      · have e2 := mr_isMachine (μ := b) hm
        by_cases z : x2 < nI 40
        · simp (discharger := omega) only [f_X10_heats, f_X10_in, nI_add, mt_mul, nI_clamp, nI_leI, nI_ltI, nI_eq, mt_in_t, mt_b1, mt_b2, mt_b3, mt_b4, mt_l, mt_g, ↓reduceIte, Nat.reduceEqDiff, Nat.reduceLeDiff, ml_0, ml_1, ml_2, ml_3, ml_4, ml_5, ml_6, ml_7, ml_8, ml_9, ml_10, ml_11, ml_12, ml_13, ml_14, ml_16, ml_31, ml_32, ml_40, ml_42, ml_48, ml_50, ml_57, ml_59, ml_60, ml_63, ml_98, ml_100, ml_103, ml_104, ml_105, ml_106, ml_107, ml_108, ml_109, ml_110, ml_111, ml_112, ml_113, ml_114, ml_115, ml_120, ml_127, ml_176, ml_180, ml_200, ml_254, ml_255, ml_256, ml_300, ml_728, ml_832, ml_65536, e2, z]
        · rcases h with h | h
          · exact absurd h z
          · simp (discharger := omega) only [f_X10_heats, f_X10_in, nI_add, mt_mul, nI_clamp, nI_leI, nI_ltI, nI_eq, mt_in_t, mt_b1, mt_b2, mt_b3, mt_b4, mt_l, mt_g, ↓reduceIte, Nat.reduceEqDiff, Nat.reduceLeDiff, ml_0, ml_1, ml_2, ml_3, ml_4, ml_5, ml_6, ml_7, ml_8, ml_9, ml_10, ml_11, ml_12, ml_13, ml_14, ml_16, ml_31, ml_32, ml_40, ml_42, ml_48, ml_50, ml_57, ml_59, ml_60, ml_63, ml_98, ml_100, ml_103, ml_104, ml_105, ml_106, ml_107, ml_108, ml_109, ml_110, ml_111, ml_112, ml_113, ml_114, ml_115, ml_120, ml_127, ml_176, ml_180, ml_200, ml_254, ml_255, ml_256, ml_300, ml_728, ml_832, ml_65536, e2, z, h]
  · right
    refine ⟨1, 1, Or.inl ⟨rfl, rfl⟩, ?_, fun b => ?_⟩
    · simp (discharger := omega) only [f_X7_faultOfHeating, nI_add, mt_mul, nI_clamp, nI_leI, nI_ltI, nI_eq, mt_in_t, mt_b1, mt_b2, mt_b3, mt_b4, mt_l, mt_g, ↓reduceIte, Nat.reduceEqDiff, Nat.reduceLeDiff, ml_0, ml_1, ml_2, ml_3, ml_4, ml_5, ml_6, ml_7, ml_8, ml_9, ml_10, ml_11, ml_12, ml_13, ml_14, ml_16, ml_31, ml_32, ml_40, ml_42, ml_48, ml_50, ml_57, ml_59, ml_60, ml_63, ml_98, ml_100, ml_103, ml_104, ml_105, ml_106, ml_107, ml_108, ml_109, ml_110, ml_111, ml_112, ml_113, ml_114, ml_115, ml_120, ml_127, ml_176, ml_180, ml_200, ml_254, ml_255, ml_256, ml_300, ml_728, ml_832, ml_65536, q3]
    · rcases mt_mac μ b x1 with ⟨m, hm, rfl, z, -⟩ | ⟨-, e2⟩
      · rw [z] at q3
        have := (nI_eq (by omega) (by omega)).mp (Option.some.inj q3)
        omega
      · simp (discharger := omega) only [f_X10_heats, nI_add, mt_mul, nI_clamp, nI_leI, nI_ltI, nI_eq, mt_in_t, mt_b1, mt_b2, mt_b3, mt_b4, mt_l, mt_g, ↓reduceIte, Nat.reduceEqDiff, Nat.reduceLeDiff, ml_0, ml_1, ml_2, ml_3, ml_4, ml_5, ml_6, ml_7, ml_8, ml_9, ml_10, ml_11, ml_12, ml_13, ml_14, ml_16, ml_31, ml_32, ml_40, ml_42, ml_48, ml_50, ml_57, ml_59, ml_60, ml_63, ml_98, ml_100, ml_103, ml_104, ml_105, ml_106, ml_107, ml_108, ml_109, ml_110, ml_111, ml_112, ml_113, ml_114, ml_115, ml_120, ml_127, ml_176, ml_180, ml_200, ml_254, ml_255, ml_256, ml_300, ml_728, ml_832, ml_65536, e2]
theorem mr_heats {m v : Nat} (hm : m < 2) (h1 : 40 ≤ v) (h2 : v ≤ 180) : mt_op σ (ms_up σ (2 + m) v) (σ (2 + m)) (fun b => f_X10_heats b (nI m) (nI v)) := by
  intro b hb
  have e2 := mr_isMachine (μ := b) hm
  have e3 := mt_at hb (i := 2 + m) (by omega)
  have z1 : ¬ v < 40 := by omega
  have z2 : ¬ 180 < v := by omega
  refine ⟨fw_u (fw_u b 0 19 (2 + m) (nI v)) 0 18 15 (nI (σ (2 + m))), ?_, mt_M_k (mt_M_u0 hb) (fw_u_o (by omega)), mt_fr_a (mt_fr_a mt_fr_r (by decide)) (by decide), mt_uy rfl, fun i hi => by rw [mt_un (by omega), mt_un (by omega)]⟩
  simp (discharger := omega) only [f_X10_heats, f_X10_in, f_X10_done, nI_add, mt_mul, nI_clamp, nI_leI, nI_ltI, nI_eq, mt_in_t, mt_b1, mt_b2, mt_b3, mt_b4, mt_l, mt_g, ↓reduceIte, Nat.reduceEqDiff, Nat.reduceLeDiff, ml_0, ml_1, ml_2, ml_3, ml_4, ml_5, ml_6, ml_7, ml_8, ml_9, ml_10, ml_11, ml_12, ml_13, ml_14, ml_16, ml_31, ml_32, ml_40, ml_42, ml_48, ml_50, ml_57, ml_59, ml_60, ml_63, ml_98, ml_100, ml_103, ml_104, ml_105, ml_106, ml_107, ml_108, ml_109, ml_110, ml_111, ml_112, ml_113, ml_114, ml_115, ml_120, ml_127, ml_176, ml_180, ml_200, ml_254, ml_255, ml_256, ml_300, ml_728, ml_832, ml_65536, e2, e3, z1, z2]
theorem mf_w0 : fw_f32 (FP.fmul (FP.i2f (nI 0)) 1056964608) = true := (by decide +kernel)
theorem pc_setTemperature (hR : mt_R B μ) (x1 x2 : Int32) : mt_A B mt_fr2 (fun k t => (k = 1 ∧ t = 1) ∨ (k = 2 ∧ t = 2)) (f_X9_setTemperature μ x1 x2) (fun m => f_X10_setTemperature m x1 x2) := by
  obtain ⟨⟨σ, hS⟩, ⟨k, h, hk8, hHC, hHM, hHo⟩, hrest⟩ := id hR
  obtain ⟨hC, hM, hok⟩ := id hS
  have hcm : ∀ m x, f_commit (fun b => f_X10_heats b x1 x2) m = some x → f_X10_setTemperature m x1 x2 = fw_g (fw_f32 (FP.fmul (FP.i2f x.2) 1056964608)) (some (x.1, FP.fmul (FP.i2f x.2) 1056964608)) := by
    intro m x hx
    unfold f_commit at hx
    unfold f_X10_setTemperature
    obtain ⟨a, a1, e1, hx⟩ := fw_b2_e hx
    obtain ⟨b, b1, e2, hx⟩ := fw_b2_e hx
    obtain ⟨c, c1, e3, hx⟩ := fw_b2_e hx
    cases hx
    have e2' : f_X10_heats a x1 x2 = some (b, b1) := e2
    rw [e1, mt_b2, e2', mt_b2, e3, mt_b2]
  rcases mt_heatArgs (μ := μ) x1 x2 with ⟨m, v, hm, h1, h2, rfl, rfl, e0⟩ | ⟨r, t, hrt, e0, e1⟩
  · obtain ⟨a1, e1, HC1, F1⟩ := mc_remember hHC hk8 hC hok.1
    have C1 : mt_C a1 0 σ := mt_C_k hC (fun f hf => F1 0 f (by omega))
    have h16 := hok.1.1
    have hh := hok.2.2.1 m hm
    have C2 := mt_C_uph (j := 0) (v := v) C1 h16 hm
    have e5 := mc_degrees C1 hm (by omega)
    obtain ⟨w1, w2, w3, -, -, w6⟩ := mf_W (σ (2 + m)) (by omega)
    obtain ⟨μ2, e4, t4, R4⟩ := mt_commit hR hk8 hHM hHo hS HC1 F1 C2 (mt_fr_u (mt_sC_t (by decide))) (Nat.le_refl B) (ms_heat_ok hok hm h1 h2) (mr_heats hm h1 h2)
    have e6 := hcm _ _ e4
    refine ⟨fw_u a1 0 7 m (nI v), mf_w (σ (2 + m)), 0, μ2, mf_w (σ (2 + m)), 0, ?_, ?_, t4, R4, Or.inl ⟨rfl, rfl, rfl, w3, w6⟩⟩
    · simp (discharger := omega) only [f_X9_setTemperature, f_X9_raise, nI_add, mt_mul, nI_clamp, nI_leI, nI_ltI, nI_eq, mt_in_t, mt_b1, mt_b2, mt_b3, mt_b4, mt_l, mt_g, ↓reduceIte, Nat.reduceEqDiff, Nat.reduceLeDiff, ml_0, ml_1, ml_2, ml_3, ml_4, ml_5, ml_6, ml_7, ml_8, ml_9, ml_10, ml_11, ml_12, ml_13, ml_14, ml_16, ml_31, ml_32, ml_40, ml_42, ml_48, ml_50, ml_57, ml_59, ml_60, ml_63, ml_98, ml_100, ml_103, ml_104, ml_105, ml_106, ml_107, ml_108, ml_109, ml_110, ml_111, ml_112, ml_113, ml_114, ml_115, ml_120, ml_127, ml_176, ml_180, ml_200, ml_254, ml_255, ml_256, ml_300, ml_728, ml_832, ml_65536, e0, e1, e5]
    · show f_X10_setTemperature _ (nI m) (nI v) = _
      rw [e6, w2, w1, mt_g]
  · have ht0 : t ≠ 0 ∧ t < 100 := by omega
    obtain ⟨μ2, e3, t3, R3⟩ := mt_refuse (σ := σ) (R := fun m1 => f_X10_heats m1 x1 x2) hR hM ht0.1 ht0.2 (fun b _ => e1 b)
    have e6 := hcm _ _ e3
    have hk : ∃ k, f_X9_raise μ (nI r) = some (μ, (), k) ∧ k ≠ 0 ∧ ((k = 1 ∧ t = 1) ∨ (k = 2 ∧ t = 2)) := by
      rcases hrt with ⟨rfl, rfl⟩ | ⟨rfl, rfl⟩
      · exact ⟨1, by simp (discharger := omega) only [f_X9_raise, nI_add, mt_mul, nI_clamp, nI_leI, nI_ltI, nI_eq, mt_in_t, mt_b1, mt_b2, mt_b3, mt_b4, mt_l, mt_g, ↓reduceIte, Nat.reduceEqDiff, Nat.reduceLeDiff, ml_0, ml_1, ml_2, ml_3, ml_4, ml_5, ml_6, ml_7, ml_8, ml_9, ml_10, ml_11, ml_12, ml_13, ml_14, ml_16, ml_31, ml_32, ml_40, ml_42, ml_48, ml_50, ml_57, ml_59, ml_60, ml_63, ml_98, ml_100, ml_103, ml_104, ml_105, ml_106, ml_107, ml_108, ml_109, ml_110, ml_111, ml_112, ml_113, ml_114, ml_115, ml_120, ml_127, ml_176, ml_180, ml_200, ml_254, ml_255, ml_256, ml_300, ml_728, ml_832, ml_65536], by decide, Or.inl ⟨rfl, rfl⟩⟩
      · exact ⟨2, by simp (discharger := omega) only [f_X9_raise, nI_add, mt_mul, nI_clamp, nI_leI, nI_ltI, nI_eq, mt_in_t, mt_b1, mt_b2, mt_b3, mt_b4, mt_l, mt_g, ↓reduceIte, Nat.reduceEqDiff, Nat.reduceLeDiff, ml_0, ml_1, ml_2, ml_3, ml_4, ml_5, ml_6, ml_7, ml_8, ml_9, ml_10, ml_11, ml_12, ml_13, ml_14, ml_16, ml_31, ml_32, ml_40, ml_42, ml_48, ml_50, ml_57, ml_59, ml_60, ml_63, ml_98, ml_100, ml_103, ml_104, ml_105, ml_106, ml_107, ml_108, ml_109, ml_110, ml_111, ml_112, ml_113, ml_114, ml_115, ml_120, ml_127, ml_176, ml_180, ml_200, ml_254, ml_255, ml_256, ml_300, ml_728, ml_832, ml_65536], by decide, Or.inr ⟨rfl, rfl⟩⟩
    obtain ⟨kk, e4, hk0, hke⟩ := hk
    refine ⟨μ, 0, kk, μ2, FP.fmul (FP.i2f (nI 0)) 1056964608, t, ?_, ?_, t3, R3, Or.inr hke⟩
    · simp (discharger := omega) only [f_X9_setTemperature, nI_add, mt_mul, nI_clamp, nI_leI, nI_ltI, nI_eq, mt_in_t, mt_b1, mt_b2, mt_b3, mt_b4, mt_l, mt_g, ↓reduceIte, Nat.reduceEqDiff, Nat.reduceLeDiff, ml_0, ml_1, ml_2, ml_3, ml_4, ml_5, ml_6, ml_7, ml_8, ml_9, ml_10, ml_11, ml_12, ml_13, ml_14, ml_16, ml_31, ml_32, ml_40, ml_42, ml_48, ml_50, ml_57, ml_59, ml_60, ml_63, ml_98, ml_100, ml_103, ml_104, ml_105, ml_106, ml_107, ml_108, ml_109, ml_110, ml_111, ml_112, ml_113, ml_114, ml_115, ml_120, ml_127, ml_176, ml_180, ml_200, ml_254, ml_255, ml_256, ml_300, ml_728, ml_832, ml_65536, e0, e4, hk0]
    · show f_X10_setTemperature μ x1 x2 = _
      rw [e6, mf_w0, mt_g]
theorem mt_runArgs (hC : mt_C μ 0 σ) (hok : mt_ok B σ) (x1 : Int32) : (∃ m, m < 2 ∧ ms_held σ m ≠ 0 ∧ x1 = nI m ∧ f_X7_faultOfRunning μ 0 x1 = some (nI 0)) ∨ ∃ r t, ((r = 1 ∧ t = 1) ∨ (r = 4 ∧ t = 2)) ∧ f_X7_faultOfRunning μ 0 x1 = some (nI r) ∧ ∀ b, mt_M b 19 0 σ → f_X10_washesAll b x1 = some (b, nI t) := by
  have hk := hok.1
  rcases mt_mac μ μ x1 with ⟨m, hm, rfl, q3, q4⟩ | ⟨q3, q4⟩
  · have eh := mc_countIn hC hk hm
    have hb := ms_held_lt hk m
    by_cases p : ms_held σ m = 0
    · right
      refine ⟨4, 2, Or.inr ⟨rfl, rfl⟩, ?_, fun b hb => ?_⟩
      · simp (discharger := omega) only [f_X7_faultOfRunning, nI_add, mt_mul, nI_clamp, nI_leI, nI_ltI, nI_eq, mt_in_t, mt_b1, mt_b2, mt_b3, mt_b4, mt_l, mt_g, ↓reduceIte, Nat.reduceEqDiff, Nat.reduceLeDiff, ml_0, ml_1, ml_2, ml_3, ml_4, ml_5, ml_6, ml_7, ml_8, ml_9, ml_10, ml_11, ml_12, ml_13, ml_14, ml_16, ml_31, ml_32, ml_40, ml_42, ml_48, ml_50, ml_57, ml_59, ml_60, ml_63, ml_98, ml_100, ml_103, ml_104, ml_105, ml_106, ml_107, ml_108, ml_109, ml_110, ml_111, ml_112, ml_113, ml_114, ml_115, ml_120, ml_127, ml_176, ml_180, ml_200, ml_254, ml_255, ml_256, ml_300, ml_728, ml_832, ml_65536, q3, eh, p]
      · have e2 := mr_isMachine (μ := b) hm
        have e4 := mr_held hb hk hm
        simp (discharger := omega) only [f_X10_washesAll, nI_add, mt_mul, nI_clamp, nI_leI, nI_ltI, nI_eq, mt_in_t, mt_b1, mt_b2, mt_b3, mt_b4, mt_l, mt_g, ↓reduceIte, Nat.reduceEqDiff, Nat.reduceLeDiff, ml_0, ml_1, ml_2, ml_3, ml_4, ml_5, ml_6, ml_7, ml_8, ml_9, ml_10, ml_11, ml_12, ml_13, ml_14, ml_16, ml_31, ml_32, ml_40, ml_42, ml_48, ml_50, ml_57, ml_59, ml_60, ml_63, ml_98, ml_100, ml_103, ml_104, ml_105, ml_106, ml_107, ml_108, ml_109, ml_110, ml_111, ml_112, ml_113, ml_114, ml_115, ml_120, ml_127, ml_176, ml_180, ml_200, ml_254, ml_255, ml_256, ml_300, ml_728, ml_832, ml_65536, e2, e4, p]
    · left
      refine ⟨m, hm, p, rfl, ?_⟩
      simp (discharger := omega) only [f_X7_faultOfRunning, nI_add, mt_mul, nI_clamp, nI_leI, nI_ltI, nI_eq, mt_in_t, mt_b1, mt_b2, mt_b3, mt_b4, mt_l, mt_g, ↓reduceIte, Nat.reduceEqDiff, Nat.reduceLeDiff, ml_0, ml_1, ml_2, ml_3, ml_4, ml_5, ml_6, ml_7, ml_8, ml_9, ml_10, ml_11, ml_12, ml_13, ml_14, ml_16, ml_31, ml_32, ml_40, ml_42, ml_48, ml_50, ml_57, ml_59, ml_60, ml_63, ml_98, ml_100, ml_103, ml_104, ml_105, ml_106, ml_107, ml_108, ml_109, ml_110, ml_111, ml_112, ml_113, ml_114, ml_115, ml_120, ml_127, ml_176, ml_180, ml_200, ml_254, ml_255, ml_256, ml_300, ml_728, ml_832, ml_65536, q3, eh, p]
  · right
    refine ⟨1, 1, Or.inl ⟨rfl, rfl⟩, ?_, fun b _ => ?_⟩
    · simp (discharger := omega) only [f_X7_faultOfRunning, nI_add, mt_mul, nI_clamp, nI_leI, nI_ltI, nI_eq, mt_in_t, mt_b1, mt_b2, mt_b3, mt_b4, mt_l, mt_g, ↓reduceIte, Nat.reduceEqDiff, Nat.reduceLeDiff, ml_0, ml_1, ml_2, ml_3, ml_4, ml_5, ml_6, ml_7, ml_8, ml_9, ml_10, ml_11, ml_12, ml_13, ml_14, ml_16, ml_31, ml_32, ml_40, ml_42, ml_48, ml_50, ml_57, ml_59, ml_60, ml_63, ml_98, ml_100, ml_103, ml_104, ml_105, ml_106, ml_107, ml_108, ml_109, ml_110, ml_111, ml_112, ml_113, ml_114, ml_115, ml_120, ml_127, ml_176, ml_180, ml_200, ml_254, ml_255, ml_256, ml_300, ml_728, ml_832, ml_65536, q3]
    · rcases mt_mac μ b x1 with ⟨m, hm, rfl, z, -⟩ | ⟨-, e2⟩
      · rw [z] at q3
        have := (nI_eq (by omega) (by omega)).mp (Option.some.inj q3)
        omega
      · simp (discharger := omega) only [f_X10_washesAll, nI_add, mt_mul, nI_clamp, nI_leI, nI_ltI, nI_eq, mt_in_t, mt_b1, mt_b2, mt_b3, mt_b4, mt_l, mt_g, ↓reduceIte, Nat.reduceEqDiff, Nat.reduceLeDiff, ml_0, ml_1, ml_2, ml_3, ml_4, ml_5, ml_6, ml_7, ml_8, ml_9, ml_10, ml_11, ml_12, ml_13, ml_14, ml_16, ml_31, ml_32, ml_40, ml_42, ml_48, ml_50, ml_57, ml_59, ml_60, ml_63, ml_98, ml_100, ml_103, ml_104, ml_105, ml_106, ml_107, ml_108, ml_109, ml_110, ml_111, ml_112, ml_113, ml_114, ml_115, ml_120, ml_127, ml_176, ml_180, ml_200, ml_254, ml_255, ml_256, ml_300, ml_728, ml_832, ml_65536, e2]
theorem pc_run (hR : mt_R B μ) (hB : B < 131072) (x1 : Int32) : mt_A (B + 1) Eq (fun k t => (k = 1 ∧ t = 1) ∨ (k = 3 ∧ t = 2)) (f_X9_run μ x1) (fun m => f_X10_run m x1) := by
  obtain ⟨⟨σ, hS⟩, ⟨k, h, hk8, hHC, hHM, hHo⟩, hrest⟩ := id hR
  obtain ⟨hC, hM, hok⟩ := id hS
  rcases mt_runArgs hC hok x1 with ⟨m, hm, hn, rfl, e0⟩ | ⟨r, t, hrt, e0, e1⟩
  · obtain ⟨a1, e1, HC1, F1⟩ := mc_remember hHC hk8 hC hok.1
    have C1 : mt_C a1 0 σ := mt_C_k hC (fun f hf => F1 0 f (by omega))
    obtain ⟨a2, e2, C2, F2⟩ := mc_wash C1 hok hB hm
    obtain ⟨μ2, e4, t4, R4⟩ := mt_commit (x := mt_sm (ms_lc σ m) (σ 0)) (R := fun b => f_X10_washesAll b (nI m)) hR hk8 hHM hHo hS HC1 F1 C2 F2 (Nat.le_succ B) (ms_wash_ok hok hB hm) (fun b hb => mr_washesAll hb hok hB hm hn)
    refine ⟨a2, nI (mt_sm (ms_lc σ m) (σ 0)), 0, μ2, nI (mt_sm (ms_lc σ m) (σ 0)), 0, ?_, ?_, t4, R4, Or.inl ⟨rfl, rfl, rfl⟩⟩
    · simp (discharger := omega) only [f_X9_run, f_X9_raise, nI_add, mt_mul, nI_clamp, nI_leI, nI_ltI, nI_eq, mt_in_t, mt_b1, mt_b2, mt_b3, mt_b4, mt_l, mt_g, ↓reduceIte, Nat.reduceEqDiff, Nat.reduceLeDiff, ml_0, ml_1, ml_2, ml_3, ml_4, ml_5, ml_6, ml_7, ml_8, ml_9, ml_10, ml_11, ml_12, ml_13, ml_14, ml_16, ml_31, ml_32, ml_40, ml_42, ml_48, ml_50, ml_57, ml_59, ml_60, ml_63, ml_98, ml_100, ml_103, ml_104, ml_105, ml_106, ml_107, ml_108, ml_109, ml_110, ml_111, ml_112, ml_113, ml_114, ml_115, ml_120, ml_127, ml_176, ml_180, ml_200, ml_254, ml_255, ml_256, ml_300, ml_728, ml_832, ml_65536, e0, e1, e2]
    · exact e4
  · have ht0 : t ≠ 0 ∧ t < 100 := by omega
    obtain ⟨μ2, e3, t3, R3⟩ := mt_refuse (σ := σ) (R := fun m1 => f_X10_washesAll m1 x1) hR hM ht0.1 ht0.2 e1
    have hk : ∃ k, f_X9_raise μ (nI r) = some (μ, (), k) ∧ k ≠ 0 ∧ ((k = 1 ∧ t = 1) ∨ (k = 3 ∧ t = 2)) := by
      rcases hrt with ⟨rfl, rfl⟩ | ⟨rfl, rfl⟩
      · exact ⟨1, by simp (discharger := omega) only [f_X9_raise, nI_add, mt_mul, nI_clamp, nI_leI, nI_ltI, nI_eq, mt_in_t, mt_b1, mt_b2, mt_b3, mt_b4, mt_l, mt_g, ↓reduceIte, Nat.reduceEqDiff, Nat.reduceLeDiff, ml_0, ml_1, ml_2, ml_3, ml_4, ml_5, ml_6, ml_7, ml_8, ml_9, ml_10, ml_11, ml_12, ml_13, ml_14, ml_16, ml_31, ml_32, ml_40, ml_42, ml_48, ml_50, ml_57, ml_59, ml_60, ml_63, ml_98, ml_100, ml_103, ml_104, ml_105, ml_106, ml_107, ml_108, ml_109, ml_110, ml_111, ml_112, ml_113, ml_114, ml_115, ml_120, ml_127, ml_176, ml_180, ml_200, ml_254, ml_255, ml_256, ml_300, ml_728, ml_832, ml_65536], by decide, Or.inl ⟨rfl, rfl⟩⟩
      · exact ⟨3, by simp (discharger := omega) only [f_X9_raise, nI_add, mt_mul, nI_clamp, nI_leI, nI_ltI, nI_eq, mt_in_t, mt_b1, mt_b2, mt_b3, mt_b4, mt_l, mt_g, ↓reduceIte, Nat.reduceEqDiff, Nat.reduceLeDiff, ml_0, ml_1, ml_2, ml_3, ml_4, ml_5, ml_6, ml_7, ml_8, ml_9, ml_10, ml_11, ml_12, ml_13, ml_14, ml_16, ml_31, ml_32, ml_40, ml_42, ml_48, ml_50, ml_57, ml_59, ml_60, ml_63, ml_98, ml_100, ml_103, ml_104, ml_105, ml_106, ml_107, ml_108, ml_109, ml_110, ml_111, ml_112, ml_113, ml_114, ml_115, ml_120, ml_127, ml_176, ml_180, ml_200, ml_254, ml_255, ml_256, ml_300, ml_728, ml_832, ml_65536], by decide, Or.inr ⟨rfl, rfl⟩⟩
    obtain ⟨kk, e4, hk0, hke⟩ := hk
    refine ⟨μ, nI 0, kk, μ2, nI 0, t, ?_, e3, t3, mt_R_m R3 (Nat.le_succ B), Or.inr hke⟩
    simp (discharger := omega) only [f_X9_run, nI_add, mt_mul, nI_clamp, nI_leI, nI_ltI, nI_eq, mt_in_t, mt_b1, mt_b2, mt_b3, mt_b4, mt_l, mt_g, ↓reduceIte, Nat.reduceEqDiff, Nat.reduceLeDiff, ml_0, ml_1, ml_2, ml_3, ml_4, ml_5, ml_6, ml_7, ml_8, ml_9, ml_10, ml_11, ml_12, ml_13, ml_14, ml_16, ml_31, ml_32, ml_40, ml_42, ml_48, ml_50, ml_57, ml_59, ml_60, ml_63, ml_98, ml_100, ml_103, ml_104, ml_105, ml_106, ml_107, ml_108, ml_109, ml_110, ml_111, ml_112, ml_113, ml_114, ml_115, ml_120, ml_127, ml_176, ml_180, ml_200, ml_254, ml_255, ml_256, ml_300, ml_728, ml_832, ml_65536, e0, e4, hk0]
end PL
