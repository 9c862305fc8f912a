/-! the mathematics, 6: copies; prices -/
theorem mt_fr_a {S : Nat → Nat → Bool} {μ a : fw_M} {j f i : Nat} {v : Int32} (h : mt_fr S μ a) (hS : S j f = true) : mt_fr S μ (fw_u a j f i v) := mt_fr_t h (mt_fr_u hS)
section MK
variable {μ : fw_M} {j : Nat} {σ : Nat → Nat}
theorem mc_copy3 {j0 j1 : Nat} (hne : j1 ≠ j0) (hC : mt_C μ j1 σ) {b : fw_M} (h1 : mt_fr (mt_sC j0) μ b) (h2 : ∀ w, w < 6 → ∀ g, g < σ 0 → b j0 (1 + w) g = nI (σ (4 + 6 * g + w))) (h3 : b j0 0 6 = nI (σ 0)) (h4 : ∀ m, m < 2 → b j0 7 m = nI (σ (2 + m))) : ∃ a, f_X7_copyFrom_L123 j0 j1 1000 b (nI 0) = some (a, ()) ∧ mt_C a j0 σ ∧ mt_fr (mt_sC j0) μ a := by
  have hk : ∀ a, mt_fr (mt_sC j0) μ a → mt_C a j1 σ := fun a ha => mt_C_k hC (fun f _ => ha j1 f (mt_sC_f (Or.inl hne)))
  refine mt_while (L := fun n (a : fw_M) i => f_X7_copyFrom_L123 j0 j1 n a i) (I := fun i a => mt_fr (mt_sC j0) μ a ∧ (∀ f, f < 8 → a j0 f = b j0 f) ∧ ∀ c, c < i → a j0 8 c = nI (σ (100 + c))) (P := fun r => ∃ a, r = some (a, ()) ∧ mt_C a j0 σ ∧ mt_fr (mt_sC j0) μ a) (N := 4) ?_ ?_ 4 1000 b 0 (by omega) (by omega) ⟨h1, fun _ _ => rfl, fun c hc => absurd hc (Nat.not_lt_zero c)⟩
  · intro n a h
    have er := (hk a h.1).2.1
    refine ⟨fw_u a j0 0 9 (nI (σ 1)), ?_, ?_, mt_fr_a h.1 (mt_sC_t (by decide))⟩
    · simp (discharger := omega) only [f_X7_copyFrom_L123, nI_add, mt_mul, nI_clamp, nI_leI, nI_ltI, nI_eq, mt_in_t, mt_b1, mt_b2, mt_b3, mt_b4, mt_l, mt_g, ↓reduceIte, Nat.reduceEqDiff, Nat.reduceLeDiff, Nat.reduceLTLE, ml_0, ml_1, ml_2, ml_3, ml_4, ml_5, ml_6, ml_7, ml_8, ml_9, ml_10, ml_11, ml_12, ml_16, ml_31, ml_32, ml_40, ml_42, ml_48, ml_50, ml_57, ml_59, ml_60, ml_63, ml_98, ml_100, ml_103, ml_104, ml_105, ml_106, ml_107, ml_108, ml_109, ml_110, ml_111, ml_112, ml_113, ml_114, ml_115, ml_120, ml_127, ml_176, ml_180, ml_200, ml_254, ml_255, ml_256, ml_300, ml_728, ml_832, ml_65536, er, Nat.le_refl]
    · refine mt_C_of ?_ ?_ (fun m hm => ?_) (fun c hc => ?_) (fun w hw g hg => ?_)
      · rw [mt_ua, if_neg (by omega), h.2.1 0 (by decide)]; exact h3
      · rw [mt_ua, if_pos ⟨rfl, rfl, rfl⟩]
      · rw [mt_ua, if_neg (by omega), h.2.1 7 (by decide)]; exact h4 m hm
      · rw [mt_ua, if_neg (by omega)]; exact h.2.2 c hc
      · rw [mt_ua, if_neg (by omega), h.2.1 (1 + w) (by omega)]; exact h2 w hw g hg
  · intro n a i hi h
    have ep := (hk a h.1).2.2.2.1 i hi
    have hi' : ¬ 4 ≤ i := by omega
    left
    refine ⟨fw_u a j0 8 i (nI (σ (100 + i))), ⟨mt_fr_a h.1 (mt_sC_t (by decide)), fun f hf => ?_, fun c hc => ?_⟩, ?_⟩
    · rw [fw_u_o (by omega)]; exact h.2.1 f hf
    · by_cases hci : c = i
      · rw [mt_ua, if_pos ⟨rfl, rfl, hci⟩, hci]
      · rw [mt_ua, if_neg (by omega)]; exact h.2.2 c (by omega)
    · simp (discharger := omega) only [f_X7_copyFrom_L123, nI_add, mt_mul, nI_clamp, nI_leI, nI_ltI, nI_eq, mt_in_t, mt_b1, mt_b2, mt_b3, mt_b4, mt_l, mt_g, ↓reduceIte, Nat.reduceEqDiff, Nat.reduceLeDiff, Nat.reduceLTLE, ml_0, ml_1, ml_2, ml_3, ml_4, ml_5, ml_6, ml_7, ml_8, ml_9, ml_10, ml_11, ml_12, ml_16, ml_31, ml_32, ml_40, ml_42, ml_48, ml_50, ml_57, ml_59, ml_60, ml_63, ml_98, ml_100, ml_103, ml_104, ml_105, ml_106, ml_107, ml_108, ml_109, ml_110, ml_111, ml_112, ml_113, ml_114, ml_115, ml_120, ml_127, ml_176, ml_180, ml_200, ml_254, ml_255, ml_256, ml_300, ml_728, ml_832, ml_65536, ep, hi', mt_ui]
theorem mc_copy2 {j0 j1 : Nat} (hne : j1 ≠ j0) (hC : mt_C μ j1 σ) {b : fw_M} (h1 : mt_fr (mt_sC j0) μ b) (h2 : ∀ w, w < 6 → ∀ g, g < σ 0 → b j0 (1 + w) g = nI (σ (4 + 6 * g + w))) (h3 : b j0 0 6 = nI (σ 0)) : ∃ a, f_X7_copyFrom_L98 j0 j1 1000 b (nI 0) = some (a, ()) ∧ mt_C a j0 σ ∧ mt_fr (mt_sC j0) μ a := by
  have hk : ∀ a, mt_fr (mt_sC j0) μ a → mt_C a j1 σ := fun a ha => mt_C_k hC (fun f _ => ha j1 f (mt_sC_f (Or.inl hne)))
  refine mt_while (L := fun n (a : fw_M) i => f_X7_copyFrom_L98 j0 j1 n a i) (I := fun i a => mt_fr (mt_sC j0) μ a ∧ (∀ f, f < 7 → a j0 f = b j0 f) ∧ ∀ c, c < i → a j0 7 c = nI (σ (2 + c))) (P := fun r => ∃ a, r = some (a, ()) ∧ mt_C a j0 σ ∧ mt_fr (mt_sC j0) μ a) (N := 2) ?_ ?_ 2 1000 b 0 (by omega) (by omega) ⟨h1, fun _ _ => rfl, fun c hc => absurd hc (Nat.not_lt_zero c)⟩
  · intro n a h
    have k := mc_copy3 hne hC h.1 (fun w hw g hg => by rw [h.2.1 (1 + w) (by omega)]; exact h2 w hw g hg) (by rw [h.2.1 0 (by omega)]; exact h3) (fun m hm => h.2.2 m hm)
    simp (discharger := omega) only [f_X7_copyFrom_L98, nI_add, mt_mul, nI_clamp, nI_leI, nI_ltI, nI_eq, mt_in_t, mt_b1, mt_b2, mt_b3, mt_b4, mt_l, mt_g, ↓reduceIte, Nat.reduceEqDiff, Nat.reduceLeDiff, Nat.reduceLTLE, ml_0, ml_1, ml_2, ml_3, ml_4, ml_5, ml_6, ml_7, ml_8, ml_9, ml_10, ml_11, ml_12, ml_16, ml_31, ml_32, ml_40, ml_42, ml_48, ml_50, ml_57, ml_59, ml_60, ml_63, ml_98, ml_100, ml_103, ml_104, ml_105, ml_106, ml_107, ml_108, ml_109, ml_110, ml_111, ml_112, ml_113, ml_114, ml_115, ml_120, ml_127, ml_176, ml_180, ml_200, ml_254, ml_255, ml_256, ml_300, ml_728, ml_832, ml_65536, Nat.le_refl]
    exact k
  · intro n a i hi h
    have ep := (hk a h.1).2.2.1 i hi
    have hi' : ¬ 2 ≤ i := by omega
    left
    refine ⟨fw_u a j0 7 i (nI (σ (2 + i))), ⟨mt_fr_a h.1 (mt_sC_t (by decide)), fun f hf => ?_, fun c hc => ?_⟩, ?_⟩
    · rw [fw_u_o (by omega)]; exact h.2.1 f hf
    · by_cases hci : c = i
      · rw [mt_ua, if_pos ⟨rfl, rfl, hci⟩, hci]
      · rw [mt_ua, if_neg (by omega)]; exact h.2.2 c (by omega)
    · simp (discharger := omega) only [f_X7_copyFrom_L98, nI_add, mt_mul, nI_clamp, nI_leI, nI_ltI, nI_eq, mt_in_t, mt_b1, mt_b2, mt_b3, mt_b4, mt_l, mt_g, ↓reduceIte, Nat.reduceEqDiff, Nat.reduceLeDiff, Nat.reduceLTLE, ml_0, ml_1, ml_2, ml_3, ml_4, ml_5, ml_6, ml_7, ml_8, ml_9, ml_10, ml_11, ml_12, ml_16, ml_31, ml_32, ml_40, ml_42, ml_48, ml_50, ml_57, ml_59, ml_60, ml_63, ml_98, ml_100, ml_103, ml_104, ml_105, ml_106, ml_107, ml_108, ml_109, ml_110, ml_111, ml_112, ml_113, ml_114, ml_115, ml_120, ml_127, ml_176, ml_180, ml_200, ml_254, ml_255, ml_256, ml_300, ml_728, ml_832, ml_65536, ep, hi']
theorem mc_copyFrom {j0 j1 : Nat} (hne : j1 ≠ j0) (hC : mt_C μ j1 σ) (hok : mt_k σ) : ∃ a, f_X7_copyFrom μ j0 j1 = some (a, ()) ∧ mt_C a j0 σ ∧ mt_fr (mt_sC j0) μ a := by
  have h16 := hok.1
  have hk : ∀ a, mt_fr (mt_sC j0) μ a → mt_C a j1 σ := fun a ha => mt_C_k hC (fun f _ => ha j1 f (mt_sC_f (Or.inl hne)))
  unfold f_X7_copyFrom
  refine mt_while (L := fun n (a : fw_M) i => f_X7_copyFrom_L2 j0 j1 n a i) (I := fun i a => mt_fr (mt_sC j0) μ a ∧ ∀ w, w < 6 → ∀ g, g < i → a j0 (1 + w) g = nI (σ (4 + 6 * g + w))) (P := fun r => ∃ a, r = some (a, ()) ∧ mt_C a j0 σ ∧ mt_fr (mt_sC j0) μ a) (N := σ 0) ?_ ?_ (σ 0) 1000 μ 0 (by omega) (by omega) ⟨mt_fr_r, fun w _ c hc => absurd hc (Nat.not_lt_zero c)⟩
  · intro n a h
    have cn := (hk a h.1).1
    have k := mc_copy2 hne hC (b := fw_u a j0 0 6 (nI (σ 0))) (mt_fr_a h.1 (mt_sC_t (by decide))) (fun w hw g hg => by rw [mt_ua, if_neg (by omega)]; exact h.2 w hw g hg) (by rw [mt_ua, if_pos ⟨rfl, rfl, rfl⟩])
    simp (discharger := omega) only [f_X7_copyFrom_L2, nI_add, mt_mul, nI_clamp, nI_leI, nI_ltI, nI_eq, mt_in_t, mt_b1, mt_b2, mt_b3, mt_b4, mt_l, mt_g, ↓reduceIte, Nat.reduceEqDiff, Nat.reduceLeDiff, Nat.reduceLTLE, ml_0, ml_1, ml_2, ml_3, ml_4, ml_5, ml_6, ml_7, ml_8, ml_9, ml_10, ml_11, ml_12, ml_16, ml_31, ml_32, ml_40, ml_42, ml_48, ml_50, ml_57, ml_59, ml_60, ml_63, ml_98, ml_100, ml_103, ml_104, ml_105, ml_106, ml_107, ml_108, ml_109, ml_110, ml_111, ml_112, ml_113, ml_114, ml_115, ml_120, ml_127, ml_176, ml_180, ml_200, ml_254, ml_255, ml_256, ml_300, ml_728, ml_832, ml_65536, cn, Nat.le_refl]
    exact k
  · intro n a i hi h
    obtain ⟨cn, -, -, -, c0, c1, c2, c3, c4, c5⟩ := hk a h.1
    have e0 := c0 i hi
    have e1 := c1 i hi
    have e2 := c2 i hi
    have e3 := c3 i hi
    have e4 := c4 i hi
    have e5 := c5 i hi
    have b1 := (hok.2 i hi).2.1
    have hi' : ¬ σ 0 ≤ i := by omega
    have hS : ∀ f, f < 9 → mt_sC j0 j0 f = true := fun f hf => mt_sC_t hf
    left
    refine ⟨fw_u (fw_u (fw_u (fw_u (fw_u (fw_u a j0 1 i (nI (σ (4 + 6 * i + 0)))) j0 2 i (nI (σ (4 + 6 * i + 1)))) j0 3 i (nI (σ (4 + 6 * i + 2)))) j0 4 i (nI (σ (4 + 6 * i + 3)))) j0 5 i (nI (σ (4 + 6 * i + 4)))) j0 6 i (nI (σ (4 + 6 * i + 5))), ⟨mt_fr_a (mt_fr_a (mt_fr_a (mt_fr_a (mt_fr_a (mt_fr_a h.1 (hS 1 (by decide))) (hS 2 (by decide))) (hS 3 (by decide))) (hS 4 (by decide))) (hS 5 (by decide))) (hS 6 (by decide)), fun w hw g hg => ?_⟩, ?_⟩
    · have hc : w = 0 ∨ w = 1 ∨ w = 2 ∨ w = 3 ∨ w = 4 ∨ w = 5 := by omega
      by_cases hgi : g = i
      · subst hgi
        rcases hc with rfl | rfl | rfl | rfl | rfl | rfl <;> simp only [mt_ua, Nat.reduceAdd, Nat.reduceEqDiff, true_and, and_true, false_and, and_false, ↓reduceIte]
      · have hq := h.2 w hw g (by omega)
        rcases hc with rfl | rfl | rfl | rfl | rfl | rfl <;> simp only [mt_ua, Nat.reduceAdd, hgi, and_false, ↓reduceIte] <;> exact hq
    · simp (discharger := omega) only [f_X7_copyFrom_L2, nI_add, mt_mul, nI_clamp, nI_leI, nI_ltI, nI_eq, mt_in_t, mt_b1, mt_b2, mt_b3, mt_b4, mt_l, mt_g, ↓reduceIte, Nat.reduceEqDiff, Nat.reduceLeDiff, Nat.reduceLTLE, ml_0, ml_1, ml_2, ml_3, ml_4, ml_5, ml_6, ml_7, ml_8, ml_9, ml_10, ml_11, ml_12, ml_16, ml_31, ml_32, ml_40, ml_42, ml_48, ml_50, ml_57, ml_59, ml_60, ml_63, ml_98, ml_100, ml_103, ml_104, ml_105, ml_106, ml_107, ml_108, ml_109, ml_110, ml_111, ml_112, ml_113, ml_114, ml_115, ml_120, ml_127, ml_176, ml_180, ml_200, ml_254, ml_255, ml_256, ml_300, ml_728, ml_832, ml_65536, cn, e0, e1, e2, e3, e4, e5, hi', mt_ua, hne, false_and, mt_narb]
/-! prices -/
def mf_w (h : Nat) : UInt32 := FP.fdiv (FP.i2f (nI h)) FP.fconst2
def mf_c1 (own : Nat) : UInt32 := FP.d2f (FP.dmul 4608308318706860032 (FP.i2d (nI own)))
def mf_c2 (h pay : Nat) : UInt32 := FP.d2f (FP.ddiv (FP.dmul (FP.f2d (mf_w h)) 4593671619917905920) (FP.i2d (nI pay)))
theorem mf_A : ∀ own, own < 6 → fw_f64 (FP.dmul 4608308318706860032 (FP.i2d (nI own))) = true ∧ fw_f32 (mf_c1 own) = true ∧ FP.fmul 1067450368 (FP.i2f (nI own)) = mf_c1 own := by decide +kernel
theorem mf_W : ∀ h, h < 181 → fw_f32 (mf_w h) = true ∧ FP.fmul (FP.i2f (nI h)) 1056964608 = mf_w h ∧ fw_f64 (FP.f2d (mf_w h)) = true ∧ fw_f64 (FP.dmul (FP.f2d (mf_w h)) 4593671619917905920) = true ∧ fw_f32 (FP.fmul (mf_w h) 1040187392) = true ∧ Op.cmpValue (FP.dcmp (FP.f2d (mf_w h)) (FP.f2d (mf_w h))) CmpOp.l = 0 := by decide +kernel
theorem mf_B : ∀ h, h < 181 → ∀ pay, pay < 5 → 40 ≤ h → 1 ≤ pay → fw_f64 (FP.ddiv (FP.dmul (FP.f2d (mf_w h)) 4593671619917905920) (FP.i2d (nI pay))) = true ∧ fw_f32 (mf_c2 h pay) = true ∧ FP.fdiv (FP.fmul (mf_w h) 1040187392) (FP.i2f (nI pay)) = mf_c2 h pay := by decide +kernel
def ms_cost (h own pay : Nat) : UInt32 := if own = 0 then FP.fconst0 else FP.fadd (mf_c1 own) (mf_c2 h pay)
/-- a price: 0, or at least 1 and at most 32 -/
def mf_P (q : UInt32) : Prop := fw_f32 q = true ∧ (q = 0 ∨ 1065353216 ≤ q.toNat) ∧ q.toNat < 2147483648 ∧ mf_u q.toNat ≤ 32 * 2 ^ 149 ∧ fw_f64 (FP.f2d q) = true ∧ Op.cmpValue (FP.dcmp (FP.f2d q) (FP.f2d q)) CmpOp.l = 0
theorem mf_S (own : Nat) (h1 : own < 6) : ∀ h, h < 181 → ∀ pay, pay < 5 → 40 ≤ h → 1 ≤ pay → fw_f32 (ms_cost h own pay) = true ∧ (ms_cost h own pay = 0 ∨ 1065353216 ≤ (ms_cost h own pay).toNat) ∧ (ms_cost h own pay).toNat < 2147483648 ∧ mf_u (ms_cost h own pay).toNat ≤ 32 * 2 ^ 149 ∧ fw_f64 (FP.f2d (ms_cost h own pay)) = true ∧ Op.cmpValue (FP.dcmp (FP.f2d (ms_cost h own pay)) (FP.f2d (ms_cost h own pay))) CmpOp.l = 0 := by
  have hc : own = 0 ∨ own = 1 ∨ own = 2 ∨ own = 3 ∨ own = 4 ∨ own = 5 := by omega
  rcases hc with rfl | rfl | rfl | rfl | rfl | rfl <;> decide +kernel
theorem mt_or_tb {f : Nat → Nat} {c : Nat} : ∀ {n : Nat}, (mt_or f n).testBit c = true ↔ ∃ g, g < n ∧ (f g).testBit c = true
  | 0 => by
    constructor
    · intro h
      rw [mt_or, Nat.zero_testBit] at h
      cases h
    · rintro ⟨g, hg, -⟩
      exact absurd hg (Nat.not_lt_zero g)
  | n + 1 => by
    rw [mt_or, Nat.testBit_or, Bool.or_eq_true, mt_or_tb (n := n)]
    constructor
    · rintro (⟨g, hg, h⟩ | h)
      · exact ⟨g, by omega, h⟩
      · exact ⟨n, by omega, h⟩
    · rintro ⟨g, hg, h⟩
      by_cases hgn : g = n
      · subst hgn; exact Or.inr h
      · exact Or.inl ⟨g, by omega, h⟩
theorem mt_sm_pos {f : Nat → Nat} : ∀ {n : Nat}, 0 < mt_sm f n ↔ ∃ g, g < n ∧ 0 < f g
  | 0 => by
    constructor
    · intro h; exact absurd h (Nat.lt_irrefl 0)
    · rintro ⟨g, hg, -⟩; exact absurd hg (Nat.not_lt_zero g)
  | n + 1 => by
    have ih := mt_sm_pos (f := f) (n := n)
    rw [mt_sm]
    constructor
    · intro h
      by_cases h2 : 0 < f n
      · exact ⟨n, by omega, h2⟩
      · obtain ⟨g, hg, h3⟩ := ih.mp (by omega)
        exact ⟨g, by omega, h3⟩
    · rintro ⟨g, hg, h⟩
      by_cases hgn : g = n
      · subst hgn; omega
      · have := ih.mpr ⟨g, by omega, h⟩
        omega
theorem ms_py_tb {m c : Nat} : (ms_py σ m).testBit c = true ↔ 0 < ms_ho σ m c := by
  unfold ms_py ms_ho
  rw [mt_or_tb, mt_sm_pos]
  constructor
  · rintro ⟨g, hg, h⟩
    refine ⟨g, hg, ?_⟩
    by_cases h1 : σ (4 + 6 * g + 4) = m + 1
    · simp only [h1, ↓reduceIte, Nat.testBit_two_pow, decide_eq_true_eq] at h
      simp only [h1, h, and_self, ↓reduceIte]
      decide
    · simp only [h1, ↓reduceIte, Nat.zero_testBit] at h
      cases h
  · rintro ⟨g, hg, h⟩
    refine ⟨g, hg, ?_⟩
    by_cases h1 : σ (4 + 6 * g + 4) = m + 1 ∧ σ (4 + 6 * g + 0) = c
    · simp only [h1.1, h1.2, ↓reduceIte, Nat.testBit_two_pow, decide_true]
    · rw [if_neg h1] at h
      exact absurd h (Nat.lt_irrefl 0)
def ms_pn (σ : Nat → Nat) (m : Nat) : Nat := mt_sm (fun c => if 0 < ms_ho σ m c then 1 else 0) 4
theorem mt_pc16 : ∀ x, x < 16 → ms_pc x = mt_sm (fun c => if x.testBit c = true then 1 else 0) 4 := by decide +kernel
theorem ms_pn_e (hok : mt_k σ) (m : Nat) : ms_pc (ms_py σ m) = ms_pn σ m := by
  rw [mt_pc16 _ (ms_py_lt hok m)]
  refine mt_sm_c (fun c _ => ?_)
  by_cases h : 0 < ms_ho σ m c
  · rw [if_pos (ms_py_tb.mpr h), if_pos h]
  · rw [if_neg (fun z => h (ms_py_tb.mp z)), if_neg h]
theorem ms_pn_b {m c : Nat} (hc : c < 4) (h : 0 < ms_ho σ m c) : 1 ≤ ms_pn σ m ∧ ms_pn σ m < 5 := by
  have h1 : 0 < ms_pn σ m := mt_sm_pos.mpr ⟨c, hc, by rw [if_pos h]; decide⟩
  have h2 := mt_sm_le (f := fun c => if 0 < ms_ho σ m c then 1 else 0) (c := 1) (n := 4) (fun g _ => by split <;> omega)
  unfold ms_pn at *
  omega
theorem mt_sm_m {f h : Nat → Nat} : ∀ {n : Nat}, (∀ g, g < n → f g ≤ h g) → mt_sm f n ≤ mt_sm h n
  | 0, _ => Nat.le_refl _
  | n + 1, q => by
    have h1 := mt_sm_m (n := n) (fun g hg => q g (by omega))
    have h2 := q n (by omega)
    show mt_sm f n + f n ≤ mt_sm h n + h n
    omega
theorem ms_ho_le (σ : Nat → Nat) (m c : Nat) : ms_ho σ m c ≤ ms_held σ m := mt_sm_m (fun g _ => by
  by_cases h : σ (4 + 6 * g + 4) = m + 1
  · by_cases h2 : σ (4 + 6 * g + 0) = c <;> simp only [h, h2, and_self, and_false, ↓reduceIte] <;> decide
  · simp only [h, false_and, ↓reduceIte]
    decide)
theorem mc_degrees (hC : mt_C μ j σ) {m : Nat} (hm : m < 2) (hh : σ (2 + m) < 181) : f_X7_degrees μ j (nI m) = some (mf_w (σ (2 + m))) := by
  have e := hC.2.2.1 m hm
  have w := (mf_W _ hh).1
  unfold mf_w at w
  simp (discharger := omega) only [f_X7_degrees, nI_add, mt_mul, nI_clamp, nI_leI, nI_ltI, nI_eq, mt_in_t, mt_b1, mt_b2, mt_b3, mt_b4, mt_l, mt_g, ↓reduceIte, Nat.reduceEqDiff, Nat.reduceLeDiff, Nat.reduceLTLE, ml_0, ml_1, ml_2, ml_3, ml_4, ml_5, ml_6, ml_7, ml_8, ml_9, ml_10, ml_11, ml_12, ml_16, ml_31, ml_32, ml_40, ml_42, ml_48, ml_50, ml_57, ml_59, ml_60, ml_63, ml_98, ml_100, ml_103, ml_104, ml_105, ml_106, ml_107, ml_108, ml_109, ml_110, ml_111, ml_112, ml_113, ml_114, ml_115, ml_120, ml_127, ml_176, ml_180, ml_200, ml_254, ml_255, ml_256, ml_300, ml_728, ml_832, ml_65536, e, w]
  rfl
/-- a price, in any memory that agrees but for the sums paid -/
theorem mc_cost {a : fw_M} (hC : mt_C μ j σ) (ha : ∀ f, f < 8 → a j f = μ j f) (hok : mt_k σ) {m c : Nat} (hm : m < 2) (hc : c < 4) (h5 : ms_held σ m ≤ 5) (hl : 40 ≤ σ (2 + m)) (hh : σ (2 + m) < 181) : f_X7_costOfRun a j (nI m) (nI c) = some (ms_cost (σ (2 + m)) (ms_ho σ m c) (ms_pn σ m)) := by
  have h16 := hok.1
  have cn : a j 0 6 = nI (σ 0) := by rw [ha 0 (by decide)]; exact hC.1
  have eh : a j 7 m = nI (σ (2 + m)) := by rw [ha 7 (by decide)]; exact hC.2.2.1 m hm
  have ed : f_X7_degrees a j (nI m) = some (mf_w (σ (2 + m))) := by
    have w := (mf_W _ hh).1
    unfold mf_w at w
    simp (discharger := omega) only [f_X7_degrees, nI_add, mt_mul, nI_clamp, nI_leI, nI_ltI, nI_eq, mt_in_t, mt_b1, mt_b2, mt_b3, mt_b4, mt_l, mt_g, ↓reduceIte, Nat.reduceEqDiff, Nat.reduceLeDiff, Nat.reduceLTLE, ml_0, ml_1, ml_2, ml_3, ml_4, ml_5, ml_6, ml_7, ml_8, ml_9, ml_10, ml_11, ml_12, ml_16, ml_31, ml_32, ml_40, ml_42, ml_48, ml_50, ml_57, ml_59, ml_60, ml_63, ml_98, ml_100, ml_103, ml_104, ml_105, ml_106, ml_107, ml_108, ml_109, ml_110, ml_111, ml_112, ml_113, ml_114, ml_115, ml_120, ml_127, ml_176, ml_180, ml_200, ml_254, ml_255, ml_256, ml_300, ml_728, ml_832, ml_65536, eh, w]
    rfl
  have hpy := ms_py_lt hok m
  have hho := ms_ho_lt hok m c
  have hho5 := ms_ho_le σ m c
  unfold f_X7_costOfRun
  refine mt_det (fun n (x : Int32 × Int32) i => f_X7_costOfRun_L8 a j n (nI m) (nI c) x.1 x.2 i) (fun i => (nI (mt_sm (fun g => if σ (4 + 6 * g + 4) = m + 1 ∧ σ (4 + 6 * g + 0) = c then 1 else 0) i), nI (mt_or (fun g => if σ (4 + 6 * g + 4) = m + 1 then 2 ^ σ (4 + 6 * g + 0) else 0) i))) (N := σ 0) ?_ ?_ (n := 1000) (by omega)
  · intro n
    show f_X7_costOfRun_L8 a j (n + 1) (nI m) (nI c) (nI (ms_ho σ m c)) (nI (ms_py σ m)) (nI (σ 0)) = _
    have ebc := mt_bc (μ := a) (x := ms_py σ m) (by omega)
    rw [ms_pn_e hok m] at ebc
    unfold ms_cost
    by_cases h0 : ms_ho σ m c = 0
    · simp (discharger := omega) only [f_X7_costOfRun_L8, nI_add, mt_mul, nI_clamp, nI_leI, nI_ltI, nI_eq, mt_in_t, mt_b1, mt_b2, mt_b3, mt_b4, mt_l, mt_g, ↓reduceIte, Nat.reduceEqDiff, Nat.reduceLeDiff, Nat.reduceLTLE, ml_0, ml_1, ml_2, ml_3, ml_4, ml_5, ml_6, ml_7, ml_8, ml_9, ml_10, ml_11, ml_12, ml_16, ml_31, ml_32, ml_40, ml_42, ml_48, ml_50, ml_57, ml_59, ml_60, ml_63, ml_98, ml_100, ml_103, ml_104, ml_105, ml_106, ml_107, ml_108, ml_109, ml_110, ml_111, ml_112, ml_113, ml_114, ml_115, ml_120, ml_127, ml_176, ml_180, ml_200, ml_254, ml_255, ml_256, ml_300, ml_728, ml_832, ml_65536, cn, ebc, h0, Nat.le_refl]
    · obtain ⟨p1, p2⟩ := ms_pn_b hc (σ := σ) (m := m) (c := c) (by omega)
      have p3 : ¬ ms_pn σ m = 0 := by omega
      obtain ⟨A1, A2, -⟩ := mf_A (ms_ho σ m c) (by omega)
      obtain ⟨-, -, W3, W4, -, -⟩ := mf_W _ hh
      obtain ⟨B1, B2, -⟩ := mf_B _ hh _ p2 hl p1
      have S1 := (mf_S (ms_ho σ m c) (by omega) _ hh _ p2 hl p1).1
      unfold ms_cost at S1
      rw [if_neg h0] at S1
      unfold mf_c1 mf_c2 at S1
      unfold mf_c1 at A2
      unfold mf_c2 at B2
      simp (discharger := omega) only [f_X7_costOfRun_L8, nI_add, mt_mul, nI_clamp, nI_leI, nI_ltI, nI_eq, mt_in_t, mt_b1, mt_b2, mt_b3, mt_b4, mt_l, mt_g, ↓reduceIte, Nat.reduceEqDiff, Nat.reduceLeDiff, Nat.reduceLTLE, ml_0, ml_1, ml_2, ml_3, ml_4, ml_5, ml_6, ml_7, ml_8, ml_9, ml_10, ml_11, ml_12, ml_16, ml_31, ml_32, ml_40, ml_42, ml_48, ml_50, ml_57, ml_59, ml_60, ml_63, ml_98, ml_100, ml_103, ml_104, ml_105, ml_106, ml_107, ml_108, ml_109, ml_110, ml_111, ml_112, ml_113, ml_114, ml_115, ml_120, ml_127, ml_176, ml_180, ml_200, ml_254, ml_255, ml_256, ml_300, ml_728, ml_832, ml_65536, cn, ebc, ed, h0, p3, A1, A2, W3, W4, B1, B2, S1, Nat.le_refl]
      rfl
  · intro n i hi
    have e4 : a j 5 i = nI (σ (4 + 6 * i + 4)) := by rw [ha 5 (by decide)]; exact mt_C_g hC (w := 4) (by decide) hi
    have e0 : a j 1 i = nI (σ (4 + 6 * i + 0)) := by rw [ha 1 (by decide)]; exact mt_C_g hC (w := 0) (by decide) hi
    have q := mc_isInC e4 (hok.2 i hi).2.2.2.2 (by omega) hm
    have b0 := (hok.2 i hi).1
    have hi' : ¬ σ 0 ≤ i := by omega
    by_cases h1 : σ (4 + 6 * i + 4) = m + 1
    · by_cases h2 : σ (4 + 6 * i + 0) = c
      · simp (discharger := omega) only [f_X7_costOfRun_L8, f_X7_costOfRun_J44, nI_add, mt_mul, nI_clamp, nI_leI, nI_ltI, nI_eq, mt_in_t, mt_b1, mt_b2, mt_b3, mt_b4, mt_l, mt_g, ↓reduceIte, Nat.reduceEqDiff, Nat.reduceLeDiff, Nat.reduceLTLE, ml_0, ml_1, ml_2, ml_3, ml_4, ml_5, ml_6, ml_7, ml_8, ml_9, ml_10, ml_11, ml_12, ml_16, ml_31, ml_32, ml_40, ml_42, ml_48, ml_50, ml_57, ml_59, ml_60, ml_63, ml_98, ml_100, ml_103, ml_104, ml_105, ml_106, ml_107, ml_108, ml_109, ml_110, ml_111, ml_112, ml_113, ml_114, ml_115, ml_120, ml_127, ml_176, ml_180, ml_200, ml_254, ml_255, ml_256, ml_300, ml_728, ml_832, ml_65536, cn, hi', q, h1, h2, e0, mt_shl, mt_or, mt_sm, fa_or, and_self, true_and]
      · simp (discharger := omega) only [f_X7_costOfRun_L8, f_X7_costOfRun_J44, nI_add, mt_mul, nI_clamp, nI_leI, nI_ltI, nI_eq, mt_in_t, mt_b1, mt_b2, mt_b3, mt_b4, mt_l, mt_g, ↓reduceIte, Nat.reduceEqDiff, Nat.reduceLeDiff, Nat.reduceLTLE, ml_0, ml_1, ml_2, ml_3, ml_4, ml_5, ml_6, ml_7, ml_8, ml_9, ml_10, ml_11, ml_12, ml_16, ml_31, ml_32, ml_40, ml_42, ml_48, ml_50, ml_57, ml_59, ml_60, ml_63, ml_98, ml_100, ml_103, ml_104, ml_105, ml_106, ml_107, ml_108, ml_109, ml_110, ml_111, ml_112, ml_113, ml_114, ml_115, ml_120, ml_127, ml_176, ml_180, ml_200, ml_254, ml_255, ml_256, ml_300, ml_728, ml_832, ml_65536, cn, hi', q, h1, h2, e0, mt_shl, mt_or, mt_sm, fa_or, and_false]
    · simp (discharger := omega) only [f_X7_costOfRun_L8, nI_add, mt_mul, nI_clamp, nI_leI, nI_ltI, nI_eq, mt_in_t, mt_b1, mt_b2, mt_b3, mt_b4, mt_l, mt_g, ↓reduceIte, Nat.reduceEqDiff, Nat.reduceLeDiff, Nat.reduceLTLE, ml_0, ml_1, ml_2, ml_3, ml_4, ml_5, ml_6, ml_7, ml_8, ml_9, ml_10, ml_11, ml_12, ml_16, ml_31, ml_32, ml_40, ml_42, ml_48, ml_50, ml_57, ml_59, ml_60, ml_63, ml_98, ml_100, ml_103, ml_104, ml_105, ml_106, ml_107, ml_108, ml_109, ml_110, ml_111, ml_112, ml_113, ml_114, ml_115, ml_120, ml_127, ml_176, ml_180, ml_200, ml_254, ml_255, ml_256, ml_300, ml_728, ml_832, ml_65536, cn, hi', q, h1, mt_or, mt_sm, false_and, Nat.or_zero, Nat.add_zero]
end MK
