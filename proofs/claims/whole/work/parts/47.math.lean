/-! the mathematics, 8: what the reference writes -/
def ms_up (σ : Nat → Nat) (k v : Nat) : Nat → Nat := fun i => if i = k then v else σ i
theorem mt_M_u {a : fw_M} {f off : Nat} {σ : Nat → Nat} {k v : Nat} (h : mt_M a f off σ) : mt_M (fw_u a 0 f (off + k) (nI v)) f off (ms_up σ k v) := by
  intro i hi
  rw [mt_ua]
  unfold ms_up
  by_cases hik : i = k
  · rw [if_pos ⟨rfl, rfl, by omega⟩, if_pos hik]
  · rw [if_neg (by omega), if_neg hik]
    exact h i hi
theorem mt_M_u0 {a : fw_M} {f : Nat} {σ : Nat → Nat} {k v : Nat} (h : mt_M a f 0 σ) : mt_M (fw_u a 0 f k (nI v)) f 0 (ms_up σ k v) := by
  have := mt_M_u (k := k) (v := v) h
  rw [Nat.zero_add] at this
  exact this
theorem mt_M_e {a : fw_M} {f off : Nat} {σ σ' : Nat → Nat} (h : mt_M a f off σ) (he : ∀ i, i < 104 → σ i = σ' i) : mt_M a f off σ' := fun i hi => by rw [← he i hi]; exact h i hi
theorem mr_sets {μ : fw_M} {g w : Nat} {x : Int32} (hg : g < 16) (hw : w < 6) : f_X10_sets μ (nI g) (nI w) x = some (fw_u μ 0 19 (4 + 6 * g + w) x, ()) := by
  simp (discharger := omega) only [f_X10_sets, nI_add, mt_mul, nI_clamp, nI_leI, nI_ltI, nI_eq, mt_in_t, mt_b1, mt_b2, mt_b3, mt_b4, mt_l, mt_g, ↓reduceIte, Nat.reduceEqDiff, Nat.reduceLeDiff, ml_0, ml_1, ml_2, ml_3, ml_4, ml_5, ml_6, ml_7, ml_8, ml_9, ml_10, ml_11, ml_12, ml_13, ml_14, ml_16, ml_31, ml_32, ml_40, ml_42, ml_48, ml_50, ml_57, ml_59, ml_60, ml_63, ml_98, ml_100, ml_103, ml_104, ml_105, ml_106, ml_107, ml_108, ml_109, ml_110, ml_111, ml_112, ml_113, ml_114, ml_115, ml_120, ml_127, ml_176, ml_180, ml_200, ml_254, ml_255, ml_256, ml_300, ml_728, ml_832, ml_65536]
/-- filling N places of one array from the place od on -/
def mt_K (μ a : fw_M) (fd od : Nat) (v : Nat → Int32) (i : Nat) : Prop := (∀ j f, ¬ (j = 0 ∧ f = fd) → a j f = μ j f) ∧ (∀ k, k < i → a 0 fd (od + k) = v k) ∧ ∀ k, (k < od ∨ od + i ≤ k) → a 0 fd k = μ 0 fd k
theorem mr_fill {β : Type} {μ : fw_M} (L : Nat → fw_M → Int32 → Option β) {fd od N : Nat} (v : Nat → Int32) (fin : fw_M → Option β) (hN : N < 1000) (hend : ∀ n a, mt_K μ a fd od v N → L (n + 1) a (nI N) = fin a) (hstep : ∀ n a i, i < N → mt_K μ a fd od v i → L (n + 1) a (nI i) = L n (fw_u a 0 fd (od + i) (v i)) (nI (i + 1))) : ∃ a, L 1000 μ (nI 0) = fin a ∧ mt_K μ a fd od v N := by
  refine mt_while (L := L) (I := fun i a => mt_K μ a fd od v i) (P := fun r => ∃ a, r = fin a ∧ mt_K μ a fd od v N) (N := N) ?_ ?_ N 1000 μ 0 (by omega) hN ⟨fun _ _ _ => rfl, fun k hk => absurd hk (Nat.not_lt_zero k), fun _ _ => rfl⟩
  · intro n a h
    exact ⟨a, hend n a h, h⟩
  · intro n a i hi h
    left
    refine ⟨_, ⟨fun j f q => ?_, fun k hk => ?_, fun k hk => ?_⟩, hstep n a i hi h⟩
    · rw [fw_u_o q]
      exact h.1 j f q
    · rw [mt_ua]
      by_cases hki : k = i
      · rw [if_pos ⟨rfl, rfl, by omega⟩, hki]
      · rw [if_neg (by omega)]
        exact h.2.1 k (by omega)
    · rw [mt_ua, if_neg (by omega)]
      exact h.2.2 k (by omega)
section MX
variable {μ : fw_M} {σ : Nat → Nat} {B : Nat}
theorem mr_warm (hM : mt_M μ 19 0 σ) {m : Nat} (hm : m < 2) (hh : σ (2 + m) < 181) : f_X10_warm μ (nI m) = some (mf_w (σ (2 + m))) := by
  have e := mt_at hM (i := 2 + m) (by omega)
  obtain ⟨w1, w2, -⟩ := mf_W _ hh
  simp (discharger := omega) only [f_X10_warm, nI_add, mt_mul, nI_clamp, nI_leI, nI_ltI, nI_eq, mt_in_t, mt_b1, mt_b2, mt_b3, mt_b4, mt_l, mt_g, ↓reduceIte, Nat.reduceEqDiff, Nat.reduceLeDiff, ml_0, ml_1, ml_2, ml_3, ml_4, ml_5, ml_6, ml_7, ml_8, ml_9, ml_10, ml_11, ml_12, ml_13, ml_14, ml_16, ml_31, ml_32, ml_40, ml_42, ml_48, ml_50, ml_57, ml_59, ml_60, ml_63, ml_98, ml_100, ml_103, ml_104, ml_105, ml_106, ml_107, ml_108, ml_109, ml_110, ml_111, ml_112, ml_113, ml_114, ml_115, ml_120, ml_127, ml_176, ml_180, ml_200, ml_254, ml_255, ml_256, ml_300, ml_728, ml_832, ml_65536, e, w1, w2]
theorem mr_cost (hM : mt_M μ 19 0 σ) (hok : mt_k σ) {m c : Nat} (hm : m < 2) (hc : c < 4) (h5 : ms_held σ m ≤ 5) (hl : 40 ≤ σ (2 + m)) (hh : σ (2 + m) < 181) : f_X10_cost μ (nI m) (nI c) = some (ms_cost (σ (2 + m)) (ms_ho σ m c) (ms_pn σ m)) := by
  have h16 := hok.1
  have e := mr_heldOf hM hok hm hc
  have hho := ms_ho_lt hok m c
  have hho5 := ms_ho_le σ m c
  have ew := mr_warm hM hm hh
  by_cases h0 : ms_ho σ m c = 0
  · unfold ms_cost
    simp (discharger := omega) only [f_X10_cost, nI_add, mt_mul, nI_clamp, nI_leI, nI_ltI, nI_eq, mt_in_t, mt_b1, mt_b2, mt_b3, mt_b4, mt_l, mt_g, ↓reduceIte, Nat.reduceEqDiff, Nat.reduceLeDiff, ml_0, ml_1, ml_2, ml_3, ml_4, ml_5, ml_6, ml_7, ml_8, ml_9, ml_10, ml_11, ml_12, ml_13, ml_14, ml_16, ml_31, ml_32, ml_40, ml_42, ml_48, ml_50, ml_57, ml_59, ml_60, ml_63, ml_98, ml_100, ml_103, ml_104, ml_105, ml_106, ml_107, ml_108, ml_109, ml_110, ml_111, ml_112, ml_113, ml_114, ml_115, ml_120, ml_127, ml_176, ml_180, ml_200, ml_254, ml_255, ml_256, ml_300, ml_728, ml_832, ml_65536, e, h0]
  · obtain ⟨p1, p2⟩ := ms_pn_b hc (σ := σ) (m := m) (c := c) (by omega)
    obtain ⟨A1, A2, A3⟩ := mf_A (ms_ho σ m c) (by omega)
    obtain ⟨-, -, W3, W4, W5, -⟩ := mf_W _ hh
    obtain ⟨B1, B2, B3⟩ := mf_B _ hh _ p2 hl p1
    have S1 := (mf_S (ms_ho σ m c) (by omega) _ hh _ p2 hl p1).1.1
    have key : f_X10_cost_L19 μ 1000 (nI m) (nI (ms_ho σ m c)) (nI 0) (nI 0) = some (ms_cost (σ (2 + m)) (ms_ho σ m c) (ms_pn σ m)) := by
      refine mt_det (fun n (x : Int32) i => f_X10_cost_L19 μ n (nI m) (nI (ms_ho σ m c)) x i) (fun i => nI (mt_sm (fun c => if 0 < ms_ho σ m c then 1 else 0) i)) (N := 4) ?_ ?_ (n := 1000) (by omega)
      · intro n
        show f_X10_cost_L19 μ (n + 1) (nI m) (nI (ms_ho σ m c)) (nI (ms_pn σ m)) (nI 4) = _
        unfold ms_cost at S1 ⊢
        rw [if_neg h0] at S1 ⊢
        simp (discharger := omega) only [f_X10_cost_L19, nI_add, mt_mul, nI_clamp, nI_leI, nI_ltI, nI_eq, mt_in_t, mt_b1, mt_b2, mt_b3, mt_b4, mt_l, mt_g, ↓reduceIte, Nat.reduceEqDiff, Nat.reduceLeDiff, ml_0, ml_1, ml_2, ml_3, ml_4, ml_5, ml_6, ml_7, ml_8, ml_9, ml_10, ml_11, ml_12, ml_13, ml_14, ml_16, ml_31, ml_32, ml_40, ml_42, ml_48, ml_50, ml_57, ml_59, ml_60, ml_63, ml_98, ml_100, ml_103, ml_104, ml_105, ml_106, ml_107, ml_108, ml_109, ml_110, ml_111, ml_112, ml_113, ml_114, ml_115, ml_120, ml_127, ml_176, ml_180, ml_200, ml_254, ml_255, ml_256, ml_300, ml_728, ml_832, ml_65536, ew, A2, A3, W5, B2, B3, S1, Nat.le_refl]
      · intro n i hi
        have q := mr_heldOf hM hok hm hi
        have hx := ms_ho_lt hok m i
        have hi' : ¬ 4 ≤ i := by omega
        by_cases h1 : 0 < ms_ho σ m i
        · have h2 : ¬ ms_ho σ m i ≤ 0 := by omega
          simp (discharger := omega) only [f_X10_cost_L19, nI_add, mt_mul, nI_clamp, nI_leI, nI_ltI, nI_eq, mt_in_t, mt_b1, mt_b2, mt_b3, mt_b4, mt_l, mt_g, ↓reduceIte, Nat.reduceEqDiff, Nat.reduceLeDiff, ml_0, ml_1, ml_2, ml_3, ml_4, ml_5, ml_6, ml_7, ml_8, ml_9, ml_10, ml_11, ml_12, ml_13, ml_14, ml_16, ml_31, ml_32, ml_40, ml_42, ml_48, ml_50, ml_57, ml_59, ml_60, ml_63, ml_98, ml_100, ml_103, ml_104, ml_105, ml_106, ml_107, ml_108, ml_109, ml_110, ml_111, ml_112, ml_113, ml_114, ml_115, ml_120, ml_127, ml_176, ml_180, ml_200, ml_254, ml_255, ml_256, ml_300, ml_728, ml_832, ml_65536, hi', q, h1, h2, mt_sm]
        · have h2 : ms_ho σ m i ≤ 0 := by omega
          simp (discharger := omega) only [f_X10_cost_L19, nI_add, mt_mul, nI_clamp, nI_leI, nI_ltI, nI_eq, mt_in_t, mt_b1, mt_b2, mt_b3, mt_b4, mt_l, mt_g, ↓reduceIte, Nat.reduceEqDiff, Nat.reduceLeDiff, ml_0, ml_1, ml_2, ml_3, ml_4, ml_5, ml_6, ml_7, ml_8, ml_9, ml_10, ml_11, ml_12, ml_13, ml_14, ml_16, ml_31, ml_32, ml_40, ml_42, ml_48, ml_50, ml_57, ml_59, ml_60, ml_63, ml_98, ml_100, ml_103, ml_104, ml_105, ml_106, ml_107, ml_108, ml_109, ml_110, ml_111, ml_112, ml_113, ml_114, ml_115, ml_120, ml_127, ml_176, ml_180, ml_200, ml_254, ml_255, ml_256, ml_300, ml_728, ml_832, ml_65536, hi', q, h1, h2, mt_sm]
    simp (discharger := omega) only [f_X10_cost, nI_add, mt_mul, nI_clamp, nI_leI, nI_ltI, nI_eq, mt_in_t, mt_b1, mt_b2, mt_b3, mt_b4, mt_l, mt_g, ↓reduceIte, Nat.reduceEqDiff, Nat.reduceLeDiff, ml_0, ml_1, ml_2, ml_3, ml_4, ml_5, ml_6, ml_7, ml_8, ml_9, ml_10, ml_11, ml_12, ml_13, ml_14, ml_16, ml_31, ml_32, ml_40, ml_42, ml_48, ml_50, ml_57, ml_59, ml_60, ml_63, ml_98, ml_100, ml_103, ml_104, ml_105, ml_106, ml_107, ml_108, ml_109, ml_110, ml_111, ml_112, ml_113, ml_114, ml_115, ml_120, ml_127, ml_176, ml_180, ml_200, ml_254, ml_255, ml_256, ml_300, ml_728, ml_832, ml_65536, e, h0, key]
def ms_pd (σ : Nat → Nat) (m c : Nat) : Nat := if 0 < ms_ho σ m c then (FP.fadd (nI (σ (100 + c))).toUInt32 (ms_cost (σ (2 + m)) (ms_ho σ m c) (ms_pn σ m))).toNat else σ (100 + c)
theorem ms_costP {m c : Nat} (hok : mt_ok B σ) (hm : m < 2) (hc : c < 4) : mf_P (ms_cost (σ (2 + m)) (ms_ho σ m c) (ms_pn σ m)) := by
  have hho5 := ms_ho_le σ m c
  have h5 := hok.2.2.2.1 m hm
  have hh := hok.2.2.1 m hm
  by_cases h0 : ms_ho σ m c = 0
  · rw [h0]
    exact mf_S0
  · obtain ⟨p1, p2⟩ := ms_pn_b hc (σ := σ) (m := m) (c := c) (by omega)
    exact (mf_S (ms_ho σ m c) (by omega) _ (by omega) _ p2 hh.1 p1).1
theorem ms_cost1 {m c : Nat} (hok : mt_ok B σ) (hm : m < 2) (hc : c < 4) (h0 : 0 < ms_ho σ m c) : 1065353216 ≤ (ms_cost (σ (2 + m)) (ms_ho σ m c) (ms_pn σ m)).toNat := by
  have hho5 := ms_ho_le σ m c
  have h5 := hok.2.2.2.1 m hm
  have hh := hok.2.2.1 m hm
  obtain ⟨p1, p2⟩ := ms_pn_b hc h0
  exact (mf_S (ms_ho σ m c) (by omega) _ (by omega) _ p2 hh.1 p1).2 h0
theorem ms_pd_F {m c : Nat} (hok : mt_ok B σ) (hB : B < 131072) (hm : m < 2) (hc : c < 4) : mt_F (σ 1 + 1) (ms_pd σ m c) := by
  unfold ms_pd
  by_cases h0 : 0 < ms_ho σ m c
  · rw [if_pos h0]
    exact (mf_add (hok.2.2.2.2 c hc) (by have := hok.2.1; omega) (ms_costP hok hm hc) (ms_cost1 hok hm hc h0)).2
  · rw [if_neg h0]
    exact mf_mono (hok.2.2.2.2 c hc)
/-- the sums paid are new from the first on, to the c-th -/
def ms_sp (σ : Nat → Nat) (p : Nat → Nat) (c : Nat) : Nat → Nat := fun i => if 100 ≤ i ∧ i < 100 + c then p (i - 100) else σ i
theorem ms_sp_l {p : Nat → Nat} {c i : Nat} (h : i < 100) : ms_sp σ p c i = σ i := if_neg (by omega)
/-- what is read of the garments alone -/
theorem ms_held_c {σ' : Nat → Nat} (h : ∀ i, i < 100 → i ≠ 1 → σ' i = σ i) (h16 : σ 0 ≤ 16) (m : Nat) : ms_held σ' m = ms_held σ m := by
  unfold ms_held
  rw [h 0 (by decide) (by decide)]
  exact mt_sm_c (fun g hg => by rw [h _ (by omega) (by omega)])
theorem ms_ho_c {σ' : Nat → Nat} (h : ∀ i, i < 100 → i ≠ 1 → σ' i = σ i) (h16 : σ 0 ≤ 16) (m c : Nat) : ms_ho σ' m c = ms_ho σ m c := by
  unfold ms_ho
  rw [h 0 (by decide) (by decide)]
  exact mt_sm_c (fun g hg => by rw [h (4 + 6 * g + 4) (by omega) (by omega), h (4 + 6 * g + 0) (by omega) (by omega)])
theorem mt_mx_c {f h : Nat → Nat} : ∀ {n : Nat}, (∀ g, g < n → f g = h g) → mt_mx f n = mt_mx h n
  | 0, _ => rfl
  | n + 1, q => by
    show (if mt_mx f n < f n then f n else mt_mx f n) = (if mt_mx h n < h n then h n else mt_mx h n)
    rw [mt_mx_c (n := n) (fun g hg => q g (by omega)), q n (by omega)]
theorem ms_gr_c {σ' : Nat → Nat} (h : ∀ i, i < 100 → i ≠ 1 → σ' i = σ i) (h16 : σ 0 ≤ 16) (m : Nat) : ms_gr σ' m = ms_gr σ m := by
  unfold ms_gr
  rw [h 0 (by decide) (by decide)]
  exact mt_mx_c (fun g hg => by rw [h (4 + 6 * g + 4) (by omega) (by omega), h (4 + 6 * g + 2) (by omega) (by omega)])
theorem ms_sd_c {σ' : Nat → Nat} (h : ∀ i, i < 100 → i ≠ 1 → σ' i = σ i) (h16 : σ 0 ≤ 16) (m q : Nat) {g : Nat} (hg : g < 16) : ms_sd σ' m q g = ms_sd σ m q g := by
  unfold ms_sd ms_wd
  rw [h (4 + 6 * g + 3) (by omega) (by omega), h (4 + 6 * g + 2) (by omega) (by omega), ms_gr_c h h16]
theorem ms_lo_c {σ' : Nat → Nat} (h : ∀ i, i < 100 → i ≠ 1 → σ' i = σ i) (h16 : σ 0 ≤ 16) (m q : Nat) {g : Nat} (hg : g < 16) : ms_lo σ' m q g ↔ ms_lo σ m q g := by
  have e0 := h 0 (by decide) (by decide)
  have e1 := h (4 + 6 * g + 1) (by omega) (by omega)
  have e2 := h (4 + 6 * g + 2) (by omega) (by omega)
  unfold ms_lo ms_ln
  rw [ms_held_c h h16, ms_sd_c h h16 m q hg, e0, e1, e2]
  constructor
  · rintro ⟨a, b, c, d⟩
    refine ⟨a, b, c, fun k hk => ?_⟩
    have := d k hk
    rw [h (4 + 6 * k + 4) (by omega) (by omega), h (4 + 6 * k + 1) (by omega) (by omega), h (4 + 6 * k + 2) (by omega) (by omega)] at this
    exact this
  · rintro ⟨a, b, c, d⟩
    refine ⟨a, b, c, fun k hk => ?_⟩
    rw [h (4 + 6 * k + 4) (by omega) (by omega), h (4 + 6 * k + 1) (by omega) (by omega), h (4 + 6 * k + 2) (by omega) (by omega)]
    exact d k hk
def ms_wg (σ : Nat → Nat) (m h g w : Nat) : Nat := if σ (4 + 6 * g + 4) = m + 1 then (if w = 3 then ms_sd σ m h g else if w = 4 then (if ms_lo σ m h g then 3 else 0) else if w = 5 then σ (4 + 6 * g + 5) + 1 else σ (4 + 6 * g + w)) else σ (4 + 6 * g + w)
def ms_ws (σ : Nat → Nat) (m n : Nat) : Nat → Nat := fun i => if i = 1 then σ 1 else if 100 ≤ i ∧ i < 104 then ms_pd σ m (i - 100) else if 4 ≤ i ∧ i < 4 + 6 * n then ms_wg σ m (σ (2 + m)) ((i - 4) / 6) ((i - 4) % 6) else σ i
def ms_wash (σ : Nat → Nat) (m : Nat) : Nat → Nat := fun i => if i = 1 then σ 1 + 1 else if 100 ≤ i ∧ i < 104 then ms_pd σ m (i - 100) else if 4 ≤ i ∧ i < 4 + 6 * σ 0 then ms_wg σ m (σ (2 + m)) ((i - 4) / 6) ((i - 4) % 6) else σ i
def ms_lc (σ : Nat → Nat) (m g : Nat) : Nat := if σ (4 + 6 * g + 4) = m + 1 ∧ ms_lo σ m (σ (2 + m)) g then 1 else 0
def mt_sW : Nat → Nat → Bool := fun j f => decide (j = 0 ∧ (f = 18 ∨ f = 19 ∨ f = 26))
theorem mt_k_c {σ' : Nat → Nat} (h : ∀ i, i < 100 → i ≠ 1 → σ' i = σ i) (hok : mt_k σ) : mt_k σ' := by
  have h0 := h 0 (by decide) (by decide)
  refine ⟨by rw [h0]; exact hok.1, fun g hg => ?_⟩
  rw [h0] at hg
  have h16 := hok.1
  unfold mt_G
  rw [h (4 + 6 * g + 0) (by omega) (by omega), h (4 + 6 * g + 1) (by omega) (by omega), h (4 + 6 * g + 2) (by omega) (by omega), h (4 + 6 * g + 3) (by omega) (by omega), h (4 + 6 * g + 4) (by omega) (by omega)]
  exact hok.2 g hg
theorem mr_sumOf (hM : mt_M μ 19 0 σ) {c : Nat} (hc : c < 4) {r : Nat} (hF : mt_F r (σ (100 + c))) : f_X10_sumOf μ (nI c) = some (nI (σ (100 + c))).toUInt32 := by
  have e := mt_at hM (i := 100 + c) (by omega)
  have ns := mf_ns hF
  simp (discharger := omega) only [f_X10_sumOf, nI_add, mt_mul, nI_clamp, nI_leI, nI_ltI, nI_eq, mt_in_t, mt_b1, mt_b2, mt_b3, mt_b4, mt_l, mt_g, ↓reduceIte, Nat.reduceEqDiff, Nat.reduceLeDiff, ml_0, ml_1, ml_2, ml_3, ml_4, ml_5, ml_6, ml_7, ml_8, ml_9, ml_10, ml_11, ml_12, ml_13, ml_14, ml_16, ml_31, ml_32, ml_40, ml_42, ml_48, ml_50, ml_57, ml_59, ml_60, ml_63, ml_98, ml_100, ml_103, ml_104, ml_105, ml_106, ml_107, ml_108, ml_109, ml_110, ml_111, ml_112, ml_113, ml_114, ml_115, ml_120, ml_127, ml_176, ml_180, ml_200, ml_254, ml_255, ml_256, ml_300, ml_728, ml_832, ml_65536, e, ns]
theorem mt_un {μ : fw_M} {j f i : Nat} {v : Int32} {j' f' i' : Nat} (h : j' ≠ j ∨ f' ≠ f ∨ i' ≠ i) : fw_u μ j f i v j' f' i' = μ j' f' i' := by
  rw [mt_ua, if_neg (by omega)]
theorem mt_uy {μ : fw_M} {j f i : Nat} {v : Int32} {i' : Nat} (h : i' = i) : fw_u μ j f i v j f i' = v := by
  rw [mt_ua, if_pos ⟨rfl, rfl, h⟩]
theorem mt_M_of {a : fw_M} {f off : Nat} {σ : Nat → Nat} (h1 : ∀ k, k < 104 → (k < 4 ∨ 100 ≤ k) → a 0 f (off + k) = nI (σ k)) (h2 : ∀ g, g < 16 → ∀ w, w < 6 → a 0 f (off + (4 + 6 * g + w)) = nI (σ (4 + 6 * g + w))) : mt_M a f off σ := by
  intro k hk
  by_cases h : k < 4 ∨ 100 ≤ k
  · exact h1 k hk h
  · have h3 := h2 ((k - 4) / 6) (by omega) ((k - 4) % 6) (by omega)
    rw [show 4 + 6 * ((k - 4) / 6) + (k - 4) % 6 = k by omega] at h3
    exact h3
theorem ms_ws_at {m n g w : Nat} (hg : g < 16) (hw : w < 6) : ms_ws σ m n (4 + 6 * g + w) = if g < n then ms_wg σ m (σ (2 + m)) g w else σ (4 + 6 * g + w) := by
  unfold ms_ws
  rw [if_neg (by omega), if_neg (by omega), show (4 + 6 * g + w - 4) / 6 = g by omega, show (4 + 6 * g + w - 4) % 6 = w by omega]
  by_cases h : g < n
  · rw [if_pos (by omega), if_pos h]
  · rw [if_neg (by omega), if_neg h]
theorem ms_ws_i {m n n' k : Nat} (hk : k < 4 ∨ 100 ≤ k) (hn : n ≤ 16) (hn' : n' ≤ 16) : ms_ws σ m n k = ms_ws σ m n' k := by
  unfold ms_ws
  by_cases h1 : k = 1
  · rw [if_pos h1, if_pos h1]
  · by_cases h2 : 100 ≤ k ∧ k < 104
    · rw [if_neg h1, if_pos h2, if_neg h1, if_pos h2]
    · rw [if_neg h1, if_neg h2, if_neg (by omega), if_neg h1, if_neg h2, if_neg (by omega)]
theorem mt_nm1 : ∀ v, v < 257 → ¬ nI v = nI 4294967295 := by decide +kernel
theorem mr_wash4 {m : Nat} (hM : mt_M μ 19 0 (ms_ws σ m 0)) (hok : mt_k σ) (ha : ∀ g, g < σ 0 → μ 0 26 g = nI (if σ (4 + 6 * g + 4) = m + 1 then (if ms_lo σ m (σ (2 + m)) g then 256 else ms_sd σ m (σ (2 + m)) g) else 4294967295)) : ∃ a, f_X10_washesAll_L197 1000 μ (nI 0) (nI 0) = some (a, nI 0) ∧ mt_M a 19 0 (ms_wash σ m) ∧ mt_fr mt_sW μ a ∧ a 0 18 15 = nI (mt_sm (ms_lc σ m) (σ 0)) ∧ ∀ i, i ≠ 15 → a 0 18 i = μ 0 18 i := by
  have h16 := hok.1
  have z0 : ∀ n, ms_ws σ m n 0 = σ 0 := fun n => by
    unfold ms_ws
    rw [if_neg (by decide), if_neg (by omega), if_neg (by omega)]
  have z1 : ∀ n, ms_ws σ m n 1 = σ 1 := fun n => if_pos rfl
  refine mt_while (L := fun n (a : fw_M × Int32) i => f_X10_washesAll_L197 n a.1 a.2 i) (I := fun i a => mt_M a.1 19 0 (ms_ws σ m i) ∧ a.2 = nI (mt_sm (ms_lc σ m) i) ∧ ∀ j f, ¬ (j = 0 ∧ f = 19) → a.1 j f = μ j f) (P := fun r => ∃ a, r = some (a, nI 0) ∧ mt_M a 19 0 (ms_wash σ m) ∧ mt_fr mt_sW μ a ∧ a 0 18 15 = nI (mt_sm (ms_lc σ m) (σ 0)) ∧ ∀ i, i ≠ 15 → a 0 18 i = μ 0 18 i) (N := σ 0) ?_ ?_ (σ 0) 1000 (μ, nI 0) 0 (by omega) (by omega) ⟨hM, rfl, fun _ _ _ => rfl⟩
  · rintro n ⟨a, x⟩ h
    obtain ⟨h1, h2, h3⟩ : mt_M a 19 0 (ms_ws σ m (σ 0)) ∧ x = nI (mt_sm (ms_lc σ m) (σ 0)) ∧ ∀ j f, ¬ (j = 0 ∧ f = 19) → a j f = μ j f := h
    have e0 := mt_at h1 (i := 0) (by decide)
    have e1 := mt_at h1 (i := 1) (by decide)
    rw [z0] at e0
    rw [z1] at e1
    refine ⟨fw_u (fw_u a 0 19 1 (nI (σ 1 + 1))) 0 18 15 (nI (mt_sm (ms_lc σ m) (σ 0))), ?_, ?_, ?_, ?_, ?_⟩
    · simp (discharger := omega) only [f_X10_washesAll_L197, f_X10_done, nI_add, mt_mul, nI_clamp, nI_leI, nI_ltI, nI_eq, mt_in_t, mt_b1, mt_b2, mt_b3, mt_b4, mt_l, mt_g, ↓reduceIte, Nat.reduceEqDiff, Nat.reduceLeDiff, ml_0, ml_1, ml_2, ml_3, ml_4, ml_5, ml_6, ml_7, ml_8, ml_9, ml_10, ml_11, ml_12, ml_13, ml_14, ml_16, ml_31, ml_32, ml_40, ml_42, ml_48, ml_50, ml_57, ml_59, ml_60, ml_63, ml_98, ml_100, ml_103, ml_104, ml_105, ml_106, ml_107, ml_108, ml_109, ml_110, ml_111, ml_112, ml_113, ml_114, ml_115, ml_120, ml_127, ml_176, ml_180, ml_200, ml_254, ml_255, ml_256, ml_300, ml_728, ml_832, ml_65536, e0, e1, h2, Nat.le_refl]
    · refine mt_M_of (fun k hk hk2 => ?_) (fun g hg w hw => ?_)
      · rw [mt_un (by omega), Nat.zero_add]
        by_cases hk1 : k = 1
        · rw [mt_uy hk1, hk1]
          show _ = nI (if 1 = 1 then _ else _)
          rw [if_pos rfl]
        · rw [mt_un (by omega), mt_at h1 hk]
          unfold ms_wash ms_ws
          rw [if_neg hk1, if_neg hk1]
      · rw [mt_un (by omega), mt_un (by omega), Nat.zero_add, mt_at h1 (by omega)]
        unfold ms_wash ms_ws
        have hne : ¬ 4 + 6 * g + w = 1 := by omega
        have hne2 : ¬ (100 ≤ 4 + 6 * g + w ∧ 4 + 6 * g + w < 104) := by omega
        simp only [hne, hne2, ↓reduceIte]
    · exact mt_fr_a (mt_fr_a (fun j f q => h3 j f (fun z => by rw [z.1, z.2] at q; revert q; decide)) (by decide)) (by decide)
    · rw [mt_uy rfl]
    · intro i hi
      rw [mt_un (by omega), mt_un (by omega), h3 0 18 (by decide)]
  · rintro n ⟨a, x⟩ i hi h
    obtain ⟨h1, h2, h3⟩ : mt_M a 19 0 (ms_ws σ m i) ∧ x = nI (mt_sm (ms_lc σ m) i) ∧ ∀ j f, ¬ (j = 0 ∧ f = 19) → a j f = μ j f := h
    subst h2
    have e0 := mt_at h1 (i := 0) (by decide)
    rw [z0] at e0
    have e5 := mt_at h1 (i := 4 + 6 * i + 5) (by omega)
    rw [ms_ws_at (by omega) (by decide), if_neg (Nat.lt_irrefl i)] at e5
    have hi' : ¬ σ 0 ≤ i := by omega
    have hq : a 0 26 i = μ 0 26 i := by rw [h3 0 26 (by decide)]
    have ea := ha i hi
    rw [← hq] at ea
    left
    by_cases q1 : σ (4 + 6 * i + 4) = m + 1
    · rw [if_pos q1] at ea
      have big : ∀ x y, (∀ w, w < 6 → ms_wg σ m (σ (2 + m)) i w = if w = 3 then x else if w = 4 then y else if w = 5 then σ (4 + 6 * i + 5) + 1 else σ (4 + 6 * i + w)) → mt_M (fw_u (fw_u (fw_u a 0 19 (4 + 6 * i + 3) (nI x)) 0 19 (4 + 6 * i + 4) (nI y)) 0 19 (4 + 6 * i + 5) (nI (σ (4 + 6 * i + 5) + 1))) 19 0 (ms_ws σ m (i + 1)) := by
        intro x y hxy
        refine mt_M_of (fun k hk hk2 => ?_) (fun g hg w hw => ?_)
        · rw [mt_un (by omega), mt_un (by omega), mt_un (by omega), Nat.zero_add, mt_at h1 hk, ms_ws_i hk2 (by omega) (n' := i + 1) (by omega)]
        · rw [Nat.zero_add, ms_ws_at hg hw]
          by_cases hgi : g = i
          · subst hgi
            rw [if_pos (by omega), hxy w hw]
            by_cases w5 : w = 5
            · rw [if_neg (by omega), if_neg (by omega), if_pos w5, mt_uy (by omega)]
            · by_cases w4 : w = 4
              · rw [if_neg (by omega), if_pos w4, mt_un (by omega), mt_uy (by omega)]
              · by_cases w3 : w = 3
                · rw [if_pos w3, mt_un (by omega), mt_un (by omega), mt_uy (by omega)]
                · rw [if_neg w3, if_neg w4, if_neg w5, mt_un (by omega), mt_un (by omega), mt_un (by omega), mt_at h1 (by omega), ms_ws_at hg hw, if_neg (Nat.lt_irrefl g)]
          · rw [mt_un (by omega), mt_un (by omega), mt_un (by omega), mt_at h1 (by omega), ms_ws_at hg hw]
            by_cases hlt : g < i
            · rw [if_pos hlt, if_pos (by omega)]
            · rw [if_neg hlt, if_neg (by omega)]
      have fr : ∀ x y z, ∀ j f, ¬ (j = 0 ∧ f = 19) → fw_u (fw_u (fw_u a 0 19 (4 + 6 * i + 3) x) 0 19 (4 + 6 * i + 4) y) 0 19 (4 + 6 * i + 5) z j f = μ j f := by
        intro x y z j f q
        rw [fw_u_o q, fw_u_o q, fw_u_o q]
        exact h3 j f q
      by_cases q2 : ms_lo σ m (σ (2 + m)) i
      · rw [if_pos q2] at ea
        have c : ms_lc σ m i = 1 := if_pos ⟨q1, q2⟩
        have hs0 := q2.2.2.1
        refine ⟨(fw_u (fw_u (fw_u a 0 19 (4 + 6 * i + 3) (nI 0)) 0 19 (4 + 6 * i + 4) (nI 3)) 0 19 (4 + 6 * i + 5) (nI (σ (4 + 6 * i + 5) + 1)), nI (mt_sm (ms_lc σ m) (i + 1))), ⟨big 0 3 (fun w hw => ?_), rfl, fr _ _ _⟩, ?_⟩
        · unfold ms_wg
          rw [if_pos q1, if_pos q2, hs0]
        · have n1 := mt_nm1 256 (by decide)
          simp (discharger := omega) only [f_X10_washesAll_L197, f_X10_washesAll_J240, f_X10_washesAll_J262, f_X10_washesAll_J279, nI_add, mt_mul, nI_clamp, nI_leI, nI_ltI, nI_eq, mt_in_t, mt_b1, mt_b2, mt_b3, mt_b4, mt_l, mt_g, ↓reduceIte, Nat.reduceEqDiff, Nat.reduceLeDiff, ml_0, ml_1, ml_2, ml_3, ml_4, ml_5, ml_6, ml_7, ml_8, ml_9, ml_10, ml_11, ml_12, ml_13, ml_14, ml_16, ml_31, ml_32, ml_40, ml_42, ml_48, ml_50, ml_57, ml_59, ml_60, ml_63, ml_98, ml_100, ml_103, ml_104, ml_105, ml_106, ml_107, ml_108, ml_109, ml_110, ml_111, ml_112, ml_113, ml_114, ml_115, ml_120, ml_127, ml_176, ml_180, ml_200, ml_254, ml_255, ml_256, ml_300, ml_728, ml_832, ml_65536, e0, e5, ea, hi', ml_m1, n1, c, mr_sets, f_X10_of, mt_un, mt_sm]
      · rw [if_neg q2] at ea
        have c : ms_lc σ m i = 0 := if_neg (fun z => q2 z.2)
        have b2 := ms_sd_lt hok hi m (σ (2 + m))
        refine ⟨(fw_u (fw_u (fw_u a 0 19 (4 + 6 * i + 3) (nI (ms_sd σ m (σ (2 + m)) i))) 0 19 (4 + 6 * i + 4) (nI 0)) 0 19 (4 + 6 * i + 5) (nI (σ (4 + 6 * i + 5) + 1)), nI (mt_sm (ms_lc σ m) (i + 1))), ⟨big (ms_sd σ m (σ (2 + m)) i) 0 (fun w hw => ?_), rfl, fr _ _ _⟩, ?_⟩
        · unfold ms_wg
          rw [if_pos q1, if_neg q2]
        · have n1 := mt_nm1 (ms_sd σ m (σ (2 + m)) i) (by omega)
          have n2 : ¬ ms_sd σ m (σ (2 + m)) i = 256 := by omega
          simp (discharger := omega) only [f_X10_washesAll_L197, f_X10_washesAll_J240, f_X10_washesAll_J262, f_X10_washesAll_J279, nI_add, mt_mul, nI_clamp, nI_leI, nI_ltI, nI_eq, mt_in_t, mt_b1, mt_b2, mt_b3, mt_b4, mt_l, mt_g, ↓reduceIte, Nat.reduceEqDiff, Nat.reduceLeDiff, ml_0, ml_1, ml_2, ml_3, ml_4, ml_5, ml_6, ml_7, ml_8, ml_9, ml_10, ml_11, ml_12, ml_13, ml_14, ml_16, ml_31, ml_32, ml_40, ml_42, ml_48, ml_50, ml_57, ml_59, ml_60, ml_63, ml_98, ml_100, ml_103, ml_104, ml_105, ml_106, ml_107, ml_108, ml_109, ml_110, ml_111, ml_112, ml_113, ml_114, ml_115, ml_120, ml_127, ml_176, ml_180, ml_200, ml_254, ml_255, ml_256, ml_300, ml_728, ml_832, ml_65536, e0, e5, ea, hi', ml_m1, n1, n2, c, mr_sets, f_X10_of, mt_un, mt_sm]
    · rw [if_neg q1] at ea
      have c : ms_lc σ m i = 0 := if_neg (fun z => q1 z.1)
      refine ⟨(a, nI (mt_sm (ms_lc σ m) (i + 1))), ⟨?_, rfl, h3⟩, ?_⟩
      · refine mt_M_e h1 (fun k hk => ?_)
        by_cases hk2 : k < 4 ∨ 100 ≤ k
        · exact ms_ws_i hk2 (by omega) (by omega)
        · have hkk : k = 4 + 6 * ((k - 4) / 6) + (k - 4) % 6 := by omega
          rw [hkk, ms_ws_at (by omega) (by omega), ms_ws_at (by omega) (by omega)]
          by_cases hgi : (k - 4) / 6 = i
          · rw [hgi, if_neg (Nat.lt_irrefl i), if_pos (by omega)]
            unfold ms_wg
            rw [if_neg q1]
          · by_cases hlt : (k - 4) / 6 < i
            · rw [if_pos hlt, if_pos (by omega)]
            · rw [if_neg hlt, if_neg (by omega)]
      · simp (discharger := omega) only [f_X10_washesAll_L197, nI_add, mt_mul, nI_clamp, nI_leI, nI_ltI, nI_eq, mt_in_t, mt_b1, mt_b2, mt_b3, mt_b4, mt_l, mt_g, ↓reduceIte, Nat.reduceEqDiff, Nat.reduceLeDiff, ml_0, ml_1, ml_2, ml_3, ml_4, ml_5, ml_6, ml_7, ml_8, ml_9, ml_10, ml_11, ml_12, ml_13, ml_14, ml_16, ml_31, ml_32, ml_40, ml_42, ml_48, ml_50, ml_57, ml_59, ml_60, ml_63, ml_98, ml_100, ml_103, ml_104, ml_105, ml_106, ml_107, ml_108, ml_109, ml_110, ml_111, ml_112, ml_113, ml_114, ml_115, ml_120, ml_127, ml_176, ml_180, ml_200, ml_254, ml_255, ml_256, ml_300, ml_728, ml_832, ml_65536, e0, ea, hi', ml_m1, c, mt_sm, Nat.add_zero]
end MX
