/-! the mathematics, 5: what the class writes into its State j -/
theorem mt_ua (μ : fw_M) (j f i : Nat) (v : Int32) (j' f' i' : Nat) : fw_u μ j f i v j' f' i' = if j' = j ∧ f' = f ∧ i' = i then v else μ j' f' i' := rfl
theorem mt_narb : ∀ k, k < 2 → vp_nar .boolean (nI k) = nI k := by decide +kernel
theorem mt_ui (x : Int32) : x.toUInt32.toInt32 = x := rfl
def mt_sC (j : Nat) : Nat → Nat → Bool := fun j' f' => decide (j' = j ∧ f' < 9)
theorem mt_sC_t {j f : Nat} (h : f < 9) : mt_sC j j f = true := decide_eq_true ⟨rfl, h⟩
theorem mt_sC_f {j j' f' : Nat} (h : j' ≠ j ∨ 9 ≤ f') : mt_sC j j' f' = false := decide_eq_false (fun z => by omega)
def ms_sw (σ : Nat → Nat) (w : Nat) (v : Nat → Nat) : Nat → Nat := fun i => if 4 ≤ i ∧ i < 100 ∧ (i - 4) % 6 = w then v ((i - 4) / 6) else σ i
theorem ms_sw_s {σ : Nat → Nat} {w : Nat} {v : Nat → Nat} {g : Nat} (hg : g < 16) (hw : w < 6) : ms_sw σ w v (4 + 6 * g + w) = v g := by
  unfold ms_sw
  rw [if_pos ⟨by omega, by omega, by omega⟩]
  congr 1
  omega
theorem ms_sw_o {σ : Nat → Nat} {w w' : Nat} {v : Nat → Nat} {g : Nat} (h : w' ≠ w) (hw : w' < 6) : ms_sw σ w v (4 + 6 * g + w') = σ (4 + 6 * g + w') := by
  unfold ms_sw
  rw [if_neg (by omega)]
theorem ms_sw_i {σ : Nat → Nat} {w : Nat} {v : Nat → Nat} {i : Nat} (h : i < 4 ∨ 100 ≤ i) : ms_sw σ w v i = σ i := by
  unfold ms_sw
  rw [if_neg (by omega)]
theorem mt_C_g {μ : fw_M} {j : Nat} {σ : Nat → Nat} (hC : mt_C μ j σ) {w : Nat} (hw : w < 6) {g : Nat} (hg : g < σ 0) : μ j (1 + w) g = nI (σ (4 + 6 * g + w)) := by
  obtain ⟨cn, cr, ch, cp, c0, c1, c2, c3, c4, c5⟩ := hC
  have h : w = 0 ∨ w = 1 ∨ w = 2 ∨ w = 3 ∨ w = 4 ∨ w = 5 := by omega
  rcases h with rfl | rfl | rfl | rfl | rfl | rfl
  · exact c0 g hg
  · exact c1 g hg
  · exact c2 g hg
  · exact c3 g hg
  · exact c4 g hg
  · exact c5 g hg
theorem mt_C_of {μ : fw_M} {j : Nat} {σ : Nat → Nat} (h0 : μ j 0 6 = nI (σ 0)) (h1 : μ j 0 9 = nI (σ 1)) (h2 : ∀ m, m < 2 → μ j 7 m = nI (σ (2 + m))) (h3 : ∀ c, c < 4 → μ j 8 c = nI (σ (100 + c))) (h4 : ∀ w, w < 6 → ∀ g, g < σ 0 → μ j (1 + w) g = nI (σ (4 + 6 * g + w))) : mt_C μ j σ :=
  ⟨h0, h1, h2, h3, h4 0 (by decide), h4 1 (by decide), h4 2 (by decide), h4 3 (by decide), h4 4 (by decide), h4 5 (by decide)⟩
theorem mt_C_w {μ μ' : fw_M} {j : Nat} {σ : Nat → Nat} {w : Nat} {v : Nat → Nat} (hC : mt_C μ j σ) (h16 : σ 0 ≤ 16) (hw : w < 6) (hf : ∀ f, f < 9 → f ≠ 1 + w → μ' j f = μ j f) (hv : ∀ g, g < σ 0 → μ' j (1 + w) g = nI (v g)) : mt_C μ' j (ms_sw σ w v) := by
  refine mt_C_of ?_ ?_ (fun m hm => ?_) (fun c hc => ?_) (fun w' hw' g hg => ?_)
  · rw [ms_sw_i (by omega), hf 0 (by omega) (by omega)]; exact hC.1
  · rw [ms_sw_i (by omega), hf 0 (by omega) (by omega)]; exact hC.2.1
  · rw [ms_sw_i (by omega), hf 7 (by omega) (by omega)]; exact hC.2.2.1 m hm
  · rw [ms_sw_i (by omega), hf 8 (by omega) (by omega)]; exact hC.2.2.2.1 c hc
  · rw [ms_sw_i (by omega)] at hg
    by_cases h : w' = w
    · subst h
      rw [ms_sw_s (by omega) hw']
      exact hv g hg
    · rw [ms_sw_o h hw', hf (1 + w') (by omega) (by omega)]
      exact mt_C_g hC hw' hg
/-- agreement at all that a state is read by -/
def ms_eq (σ σ' : Nat → Nat) : Prop := (∀ i, i < 4 → σ i = σ' i) ∧ (∀ c, c < 4 → σ (100 + c) = σ' (100 + c)) ∧ ∀ g, g < σ 0 → ∀ w, w < 6 → σ (4 + 6 * g + w) = σ' (4 + 6 * g + w)
theorem mt_C_e {μ : fw_M} {j : Nat} {σ σ' : Nat → Nat} (hC : mt_C μ j σ) (h : ms_eq σ σ') : mt_C μ j σ' := by
  refine mt_C_of ?_ ?_ (fun m hm => ?_) (fun c hc => ?_) (fun w' hw' g hg => ?_)
  · rw [← h.1 0 (by omega)]; exact hC.1
  · rw [← h.1 1 (by omega)]; exact hC.2.1
  · rw [← h.1 (2 + m) (by omega)]; exact hC.2.2.1 m hm
  · rw [← h.2.1 c hc]; exact hC.2.2.2.1 c hc
  · rw [← h.1 0 (by omega)] at hg
    rw [← h.2.2 g hg w' hw']
    exact mt_C_g hC hw' hg
section MW
variable {μ : fw_M} {j : Nat} {σ : Nat → Nat}
def mt_J (μ a : fw_M) (j : Nat) (σ : Nat → Nat) (w : Nat) (v : Nat → Nat) (i : Nat) : Prop := (∀ j' f', ¬ (j' = j ∧ f' = 1 + w) → a j' f' = μ j' f') ∧ ∀ g, g < σ 0 → a j (1 + w) g = nI (if g < i then v g else σ (4 + 6 * g + w))
theorem mt_J_C {a : fw_M} {w : Nat} {v : Nat → Nat} (hC : mt_C μ j σ) (h16 : σ 0 ≤ 16) (hw : w < 6) (h : mt_J μ a j σ w v (σ 0)) : mt_C a j (ms_sw σ w v) ∧ mt_fr (mt_sC j) μ a := by
  refine ⟨mt_C_w hC h16 hw (fun f _ q => h.1 j f (fun z => q z.2)) (fun g hg => ?_), fun j' f' q => h.1 j' f' (fun z => ?_)⟩
  · rw [h.2 g hg, if_pos hg]
  · rw [z.1, z.2, mt_sC_t (by omega)] at q
    cases q
theorem mc_each {β : Type} (L : Nat → fw_M → Int32 → Int32 → Option β) {w : Nat} (v c : Nat → Nat) (fin : fw_M → Int32 → Option β) (hC : mt_C μ j σ) (h16 : σ 0 ≤ 16) (hw : w < 6) (hend : ∀ n a x, mt_J μ a j σ w v (σ 0) → L (n + 1) a x (nI (σ 0)) = fin a x) (hstep : ∀ n a i, i < σ 0 → mt_J μ a j σ w v i → L (n + 1) a (nI (mt_sm c i)) (nI i) = L n (fw_u a j (1 + w) i (nI (v i))) (nI (mt_sm c (i + 1))) (nI (i + 1)) ∨ (v i = σ (4 + 6 * i + w) ∧ L (n + 1) a (nI (mt_sm c i)) (nI i) = L n a (nI (mt_sm c (i + 1))) (nI (i + 1)))) : ∃ a, L 1000 μ (nI 0) (nI 0) = fin a (nI (mt_sm c (σ 0))) ∧ mt_C a j (ms_sw σ w v) ∧ mt_fr (mt_sC j) μ a := by
  have h0 : mt_J μ μ j σ w v 0 := ⟨fun _ _ _ => rfl, fun g hg => by rw [if_neg (Nat.not_lt_zero g)]; exact mt_C_g hC hw hg⟩
  refine mt_while (L := fun n (a : fw_M × Int32) i => L n a.1 a.2 i) (I := fun i a => mt_J μ a.1 j σ w v i ∧ a.2 = nI (mt_sm c i)) (P := fun r => ∃ a, r = fin a (nI (mt_sm c (σ 0))) ∧ mt_C a j (ms_sw σ w v) ∧ mt_fr (mt_sC j) μ a) (N := σ 0) ?_ ?_ (σ 0) 1000 (μ, nI 0) 0 (by omega) (by omega) ⟨h0, rfl⟩
  · intro n a h
    refine ⟨a.1, ?_, mt_J_C hC h16 hw h.1⟩
    show L (n + 1) a.1 a.2 (nI (σ 0)) = _
    rw [hend n a.1 a.2 h.1, h.2]
  · intro n a i hi h
    left
    obtain ⟨h1, h2⟩ := h
    rcases hstep n a.1 i hi h1 with q | ⟨q1, q⟩
    · refine ⟨(fw_u a.1 j (1 + w) i (nI (v i)), nI (mt_sm c (i + 1))), ⟨⟨fun j' f' z => ?_, fun g hg => ?_⟩, rfl⟩, ?_⟩
      · show fw_u a.1 j (1 + w) i (nI (v i)) j' f' = _
        rw [fw_u_o z]
        exact h1.1 j' f' z
      · show fw_u a.1 j (1 + w) i (nI (v i)) j (1 + w) g = _
        rw [mt_ua]
        by_cases hgi : g = i
        · rw [if_pos ⟨rfl, rfl, hgi⟩, if_pos (by omega), hgi]
        · rw [if_neg (fun z => hgi z.2.2), h1.2 g hg]
          by_cases hlt : g < i
          · rw [if_pos hlt, if_pos (by omega)]
          · rw [if_neg hlt, if_neg (by omega)]
      · show L (n + 1) a.1 a.2 (nI i) = _
        rw [h2]
        exact q
    · refine ⟨(a.1, nI (mt_sm c (i + 1))), ⟨⟨h1.1, fun g hg => ?_⟩, rfl⟩, ?_⟩
      · rw [h1.2 g hg]
        by_cases hgi : g = i
        · subst hgi
          rw [if_neg (Nat.lt_irrefl g), if_pos (by omega), q1]
        · by_cases hlt : g < i
          · rw [if_pos hlt, if_pos (by omega)]
          · rw [if_neg hlt, if_neg (by omega)]
      · show L (n + 1) a.1 a.2 (nI i) = _
        rw [h2]
        exact q
/-- a garment's place as it stands in a cell -/
theorem mc_isInC {p g m : Nat} (h : μ j 5 g = nI p) (hp : p < 4) (hg : g < 16) (hm : m < 2) : f_X7_isIn μ j (nI g) (nI m) = some (nI (if p = m + 1 then 1 else 0)) := by
  by_cases q : p = m + 1 <;> simp (discharger := omega) only [f_X7_isIn, Nat.add_comm 1, nI_add, mt_mul, nI_clamp, nI_leI, nI_ltI, nI_eq, mt_in_t, mt_b1, mt_b2, mt_b3, mt_b4, mt_l, mt_g, ↓reduceIte, Nat.reduceEqDiff, Nat.reduceLeDiff, ml_0, ml_1, ml_2, ml_3, ml_4, ml_5, ml_6, ml_7, ml_8, ml_9, ml_10, ml_11, ml_12, ml_13, ml_14, ml_16, ml_31, ml_32, ml_40, ml_42, ml_48, ml_50, ml_57, ml_59, ml_60, ml_63, ml_98, ml_100, ml_103, ml_104, ml_105, ml_106, ml_107, ml_108, ml_109, ml_110, ml_111, ml_112, ml_113, ml_114, ml_115, ml_120, ml_127, ml_176, ml_180, ml_200, ml_254, ml_255, ml_256, ml_300, ml_728, ml_832, ml_65536, h, q]
theorem mt_J_o {a : fw_M} {w w' : Nat} {v : Nat → Nat} {i : Nat} (h : mt_J μ a j σ w v i) (hC : mt_C μ j σ) (hne : w' ≠ w) (hw : w' < 6) {g : Nat} (hg : g < σ 0) : a j (1 + w') g = nI (σ (4 + 6 * g + w')) := by
  rw [h.1 j (1 + w') (by omega)]
  exact mt_C_g hC hw hg
theorem mt_J_s {a : fw_M} {w : Nat} {v : Nat → Nat} {i : Nat} (h : mt_J μ a j σ w v i) {g : Nat} (hg : g < σ 0) (hi : i ≤ g) : a j (1 + w) g = nI (σ (4 + 6 * g + w)) := by
  rw [h.2 g hg, if_neg (by omega)]
theorem mt_J_n {a : fw_M} {w : Nat} {v : Nat → Nat} {i : Nat} (h : mt_J μ a j σ w v i) (hC : mt_C μ j σ) : a j 0 6 = nI (σ 0) := by
  rw [h.1 j 0 (by omega)]
  exact hC.1
theorem mc_removeStains (hC : mt_C μ j σ) (hok : mt_k σ) {m : Nat} (hm : m < 2) (hh : σ (2 + m) < 1000) : ∃ a, f_X8_removeStains μ j (nI m) = some (a, ()) ∧ mt_C a j (ms_sw σ 3 (fun g => if σ (4 + 6 * g + 4) = m + 1 then ms_wd σ (σ (2 + m)) g else σ (4 + 6 * g + 3))) ∧ mt_fr (mt_sC j) μ a := by
  have h16 := hok.1
  have ch := hC.2.2.1 m hm
  have e := mc_removedAt (μ := μ) hh
  simp (discharger := omega) only [f_X8_removeStains, nI_add, mt_mul, nI_clamp, nI_leI, nI_ltI, nI_eq, mt_in_t, mt_b1, mt_b2, mt_b3, mt_b4, mt_l, mt_g, ↓reduceIte, Nat.reduceEqDiff, Nat.reduceLeDiff, ml_0, ml_1, ml_2, ml_3, ml_4, ml_5, ml_6, ml_7, ml_8, ml_9, ml_10, ml_11, ml_12, ml_13, ml_14, ml_16, ml_31, ml_32, ml_40, ml_42, ml_48, ml_50, ml_57, ml_59, ml_60, ml_63, ml_98, ml_100, ml_103, ml_104, ml_105, ml_106, ml_107, ml_108, ml_109, ml_110, ml_111, ml_112, ml_113, ml_114, ml_115, ml_120, ml_127, ml_176, ml_180, ml_200, ml_254, ml_255, ml_256, ml_300, ml_728, ml_832, ml_65536, ch, e]
  refine mc_each (fun n a _ i => f_X8_removeStains_L12 j n a (nI m) (nI (ms_wb (σ (2 + m)))) i) (fun g => if σ (4 + 6 * g + 4) = m + 1 then ms_wd σ (σ (2 + m)) g else σ (4 + 6 * g + 3)) (fun _ => 0) (fun a _ => some (a, ())) hC h16 (by decide) ?_ ?_
  · intro n a x h
    have cn := mt_J_n h hC
    simp (discharger := omega) only [f_X8_removeStains_L12, nI_add, mt_mul, nI_clamp, nI_leI, nI_ltI, nI_eq, mt_in_t, mt_b1, mt_b2, mt_b3, mt_b4, mt_l, mt_g, ↓reduceIte, Nat.reduceEqDiff, Nat.reduceLeDiff, ml_0, ml_1, ml_2, ml_3, ml_4, ml_5, ml_6, ml_7, ml_8, ml_9, ml_10, ml_11, ml_12, ml_13, ml_14, ml_16, ml_31, ml_32, ml_40, ml_42, ml_48, ml_50, ml_57, ml_59, ml_60, ml_63, ml_98, ml_100, ml_103, ml_104, ml_105, ml_106, ml_107, ml_108, ml_109, ml_110, ml_111, ml_112, ml_113, ml_114, ml_115, ml_120, ml_127, ml_176, ml_180, ml_200, ml_254, ml_255, ml_256, ml_300, ml_728, ml_832, ml_65536, cn, Nat.le_refl]
  · intro n a i hi h
    have cn := mt_J_n h hC
    have e4 : a j 5 i = nI (σ (4 + 6 * i + 4)) := mt_J_o h hC (w' := 4) (by decide) (by decide) hi
    have e3 : a j 4 i = nI (σ (4 + 6 * i + 3)) := mt_J_s h hi (Nat.le_refl i)
    have q := mc_isInC e4 (hok.2 i hi).2.2.2.2 (by omega) hm
    have hi' : ¬ σ 0 ≤ i := by omega
    by_cases h1 : σ (4 + 6 * i + 4) = m + 1
    · left
      simp (discharger := omega) only [f_X8_removeStains_L12, nI_add, mt_mul, nI_clamp, nI_leI, nI_ltI, nI_eq, mt_in_t, mt_b1, mt_b2, mt_b3, mt_b4, mt_l, mt_g, ↓reduceIte, Nat.reduceEqDiff, Nat.reduceLeDiff, ml_0, ml_1, ml_2, ml_3, ml_4, ml_5, ml_6, ml_7, ml_8, ml_9, ml_10, ml_11, ml_12, ml_13, ml_14, ml_16, ml_31, ml_32, ml_40, ml_42, ml_48, ml_50, ml_57, ml_59, ml_60, ml_63, ml_98, ml_100, ml_103, ml_104, ml_105, ml_106, ml_107, ml_108, ml_109, ml_110, ml_111, ml_112, ml_113, ml_114, ml_115, ml_120, ml_127, ml_176, ml_180, ml_200, ml_254, ml_255, ml_256, ml_300, ml_728, ml_832, ml_65536, cn, q, hi', h1, e3, ml_m1, mt_xor, fa_and]
      rfl
    · right
      refine ⟨if_neg h1, ?_⟩
      simp (discharger := omega) only [f_X8_removeStains_L12, nI_add, mt_mul, nI_clamp, nI_leI, nI_ltI, nI_eq, mt_in_t, mt_b1, mt_b2, mt_b3, mt_b4, mt_l, mt_g, ↓reduceIte, Nat.reduceEqDiff, Nat.reduceLeDiff, ml_0, ml_1, ml_2, ml_3, ml_4, ml_5, ml_6, ml_7, ml_8, ml_9, ml_10, ml_11, ml_12, ml_13, ml_14, ml_16, ml_31, ml_32, ml_40, ml_42, ml_48, ml_50, ml_57, ml_59, ml_60, ml_63, ml_98, ml_100, ml_103, ml_104, ml_105, ml_106, ml_107, ml_108, ml_109, ml_110, ml_111, ml_112, ml_113, ml_114, ml_115, ml_120, ml_127, ml_176, ml_180, ml_200, ml_254, ml_255, ml_256, ml_300, ml_728, ml_832, ml_65536, cn, q, hi', h1]
def ms_lcS (σ : Nat → Nat) (m g : Nat) : Nat := if σ (4 + 6 * g + 4) = m + 1 ∧ σ (4 + 6 * g + 2) = 0 then σ (4 + 6 * g + 3) ||| 2 ^ ms_gr σ m else σ (4 + 6 * g + 3)
def ms_lcC (σ : Nat → Nat) (m g : Nat) : Nat := if (σ (4 + 6 * g + 4) = m + 1 ∧ σ (4 + 6 * g + 2) = 0) ∧ σ (4 + 6 * g + 3) &&& 2 ^ ms_gr σ m = 0 then 1 else 0
theorem mc_letColoursRun (hC : mt_C μ j σ) (hok : mt_k σ) {m : Nat} (hm : m < 2) (hh : σ (2 + m) < 1000) (h120 : 120 ≤ σ (2 + m)) : ∃ a, f_X8_letColoursRun μ j (nI m) = some (a, nI (mt_sm (ms_lcC σ m) (σ 0))) ∧ mt_C a j (ms_sw σ 3 (ms_lcS σ m)) ∧ mt_fr (mt_sC j) μ a := by
  have h16 := hok.1
  have ch := hC.2.2.1 m hm
  have e := mc_greatest hC hok hm
  have gl := ms_gr_lt hok m
  have gb := ms_gb_lt hok m
  simp (discharger := omega) only [f_X8_letColoursRun, nI_add, mt_mul, nI_clamp, nI_leI, nI_ltI, nI_eq, mt_in_t, mt_b1, mt_b2, mt_b3, mt_b4, mt_l, mt_g, ↓reduceIte, Nat.reduceEqDiff, Nat.reduceLeDiff, ml_0, ml_1, ml_2, ml_3, ml_4, ml_5, ml_6, ml_7, ml_8, ml_9, ml_10, ml_11, ml_12, ml_13, ml_14, ml_16, ml_31, ml_32, ml_40, ml_42, ml_48, ml_50, ml_57, ml_59, ml_60, ml_63, ml_98, ml_100, ml_103, ml_104, ml_105, ml_106, ml_107, ml_108, ml_109, ml_110, ml_111, ml_112, ml_113, ml_114, ml_115, ml_120, ml_127, ml_176, ml_180, ml_200, ml_254, ml_255, ml_256, ml_300, ml_728, ml_832, ml_65536, ch, e, h120, mt_shl]
  refine mc_each (fun n a x i => f_X8_letColoursRun_L26 j n a (nI m) (nI (2 ^ ms_gr σ m)) x i) (ms_lcS σ m) (ms_lcC σ m) (fun a x => some (a, x)) hC h16 (by decide) ?_ ?_
  · intro n a x h
    have cn := mt_J_n h hC
    simp (discharger := omega) only [f_X8_letColoursRun_L26, nI_add, mt_mul, nI_clamp, nI_leI, nI_ltI, nI_eq, mt_in_t, mt_b1, mt_b2, mt_b3, mt_b4, mt_l, mt_g, ↓reduceIte, Nat.reduceEqDiff, Nat.reduceLeDiff, ml_0, ml_1, ml_2, ml_3, ml_4, ml_5, ml_6, ml_7, ml_8, ml_9, ml_10, ml_11, ml_12, ml_13, ml_14, ml_16, ml_31, ml_32, ml_40, ml_42, ml_48, ml_50, ml_57, ml_59, ml_60, ml_63, ml_98, ml_100, ml_103, ml_104, ml_105, ml_106, ml_107, ml_108, ml_109, ml_110, ml_111, ml_112, ml_113, ml_114, ml_115, ml_120, ml_127, ml_176, ml_180, ml_200, ml_254, ml_255, ml_256, ml_300, ml_728, ml_832, ml_65536, cn, Nat.le_refl]
  · intro n a i hi h
    have cn := mt_J_n h hC
    have e4 : a j 5 i = nI (σ (4 + 6 * i + 4)) := mt_J_o h hC (w' := 4) (by decide) (by decide) hi
    have e2 : a j 3 i = nI (σ (4 + 6 * i + 2)) := mt_J_o h hC (w' := 2) (by decide) (by decide) hi
    have e3 : a j 4 i = nI (σ (4 + 6 * i + 3)) := mt_J_s h hi (Nat.le_refl i)
    have q := mc_isInC e4 (hok.2 i hi).2.2.2.2 (by omega) hm
    have b2 := (hok.2 i hi).2.2.1
    have b3 := (hok.2 i hi).2.2.2.1
    have b3' : σ (4 + 6 * i + 3) &&& 2 ^ ms_gr σ m ≤ σ (4 + 6 * i + 3) := Nat.and_le_left
    have hi' : ¬ σ 0 ≤ i := by omega
    by_cases h1 : σ (4 + 6 * i + 4) = m + 1
    · by_cases h2 : σ (4 + 6 * i + 2) = 0
      · left
        have v : ms_lcS σ m i = σ (4 + 6 * i + 3) ||| 2 ^ ms_gr σ m := if_pos ⟨h1, h2⟩
        by_cases h3 : σ (4 + 6 * i + 3) &&& 2 ^ ms_gr σ m = 0
        · have c : ms_lcC σ m i = 1 := if_pos ⟨⟨h1, h2⟩, h3⟩
          simp (discharger := omega) only [f_X8_letColoursRun_L26, f_X8_letColoursRun_J73, nI_add, mt_mul, nI_clamp, nI_leI, nI_ltI, nI_eq, mt_in_t, mt_b1, mt_b2, mt_b3, mt_b4, mt_l, mt_g, ↓reduceIte, Nat.reduceEqDiff, Nat.reduceLeDiff, ml_0, ml_1, ml_2, ml_3, ml_4, ml_5, ml_6, ml_7, ml_8, ml_9, ml_10, ml_11, ml_12, ml_13, ml_14, ml_16, ml_31, ml_32, ml_40, ml_42, ml_48, ml_50, ml_57, ml_59, ml_60, ml_63, ml_98, ml_100, ml_103, ml_104, ml_105, ml_106, ml_107, ml_108, ml_109, ml_110, ml_111, ml_112, ml_113, ml_114, ml_115, ml_120, ml_127, ml_176, ml_180, ml_200, ml_254, ml_255, ml_256, ml_300, ml_728, ml_832, ml_65536, cn, q, hi', h1, h2, h3, e2, e3, fa_and, fa_or, v, c, mt_sm]
        · have c : ms_lcC σ m i = 0 := if_neg (fun z => h3 z.2)
          simp (discharger := omega) only [f_X8_letColoursRun_L26, f_X8_letColoursRun_J73, nI_add, mt_mul, nI_clamp, nI_leI, nI_ltI, nI_eq, mt_in_t, mt_b1, mt_b2, mt_b3, mt_b4, mt_l, mt_g, ↓reduceIte, Nat.reduceEqDiff, Nat.reduceLeDiff, ml_0, ml_1, ml_2, ml_3, ml_4, ml_5, ml_6, ml_7, ml_8, ml_9, ml_10, ml_11, ml_12, ml_13, ml_14, ml_16, ml_31, ml_32, ml_40, ml_42, ml_48, ml_50, ml_57, ml_59, ml_60, ml_63, ml_98, ml_100, ml_103, ml_104, ml_105, ml_106, ml_107, ml_108, ml_109, ml_110, ml_111, ml_112, ml_113, ml_114, ml_115, ml_120, ml_127, ml_176, ml_180, ml_200, ml_254, ml_255, ml_256, ml_300, ml_728, ml_832, ml_65536, cn, q, hi', h1, h2, h3, e2, e3, fa_and, fa_or, v, c, mt_sm]
      · right
        have c : ms_lcC σ m i = 0 := if_neg (fun z => h2 z.1.2)
        refine ⟨if_neg (fun z => h2 z.2), ?_⟩
        simp (discharger := omega) only [f_X8_letColoursRun_L26, nI_add, mt_mul, nI_clamp, nI_leI, nI_ltI, nI_eq, mt_in_t, mt_b1, mt_b2, mt_b3, mt_b4, mt_l, mt_g, ↓reduceIte, Nat.reduceEqDiff, Nat.reduceLeDiff, ml_0, ml_1, ml_2, ml_3, ml_4, ml_5, ml_6, ml_7, ml_8, ml_9, ml_10, ml_11, ml_12, ml_13, ml_14, ml_16, ml_31, ml_32, ml_40, ml_42, ml_48, ml_50, ml_57, ml_59, ml_60, ml_63, ml_98, ml_100, ml_103, ml_104, ml_105, ml_106, ml_107, ml_108, ml_109, ml_110, ml_111, ml_112, ml_113, ml_114, ml_115, ml_120, ml_127, ml_176, ml_180, ml_200, ml_254, ml_255, ml_256, ml_300, ml_728, ml_832, ml_65536, cn, q, hi', h1, h2, e2, c, mt_sm, Nat.add_zero]
    · right
      have c : ms_lcC σ m i = 0 := if_neg (fun z => h1 z.1.1)
      refine ⟨if_neg (fun z => h1 z.1), ?_⟩
      simp (discharger := omega) only [f_X8_letColoursRun_L26, nI_add, mt_mul, nI_clamp, nI_leI, nI_ltI, nI_eq, mt_in_t, mt_b1, mt_b2, mt_b3, mt_b4, mt_l, mt_g, ↓reduceIte, Nat.reduceEqDiff, Nat.reduceLeDiff, ml_0, ml_1, ml_2, ml_3, ml_4, ml_5, ml_6, ml_7, ml_8, ml_9, ml_10, ml_11, ml_12, ml_13, ml_14, ml_16, ml_31, ml_32, ml_40, ml_42, ml_48, ml_50, ml_57, ml_59, ml_60, ml_63, ml_98, ml_100, ml_103, ml_104, ml_105, ml_106, ml_107, ml_108, ml_109, ml_110, ml_111, ml_112, ml_113, ml_114, ml_115, ml_120, ml_127, ml_176, ml_180, ml_200, ml_254, ml_255, ml_256, ml_300, ml_728, ml_832, ml_65536, cn, q, hi', h1, c, mt_sm, Nat.add_zero]
theorem mc_letColoursRun0 (hC : mt_C μ j σ) {m : Nat} (hm : m < 2) (hh : σ (2 + m) < 120) : f_X8_letColoursRun μ j (nI m) = some (μ, nI 0) := by
  have ch := hC.2.2.1 m hm
  have h2 : ¬ 120 ≤ σ (2 + m) := by omega
  simp (discharger := omega) only [f_X8_letColoursRun, nI_add, mt_mul, nI_clamp, nI_leI, nI_ltI, nI_eq, mt_in_t, mt_b1, mt_b2, mt_b3, mt_b4, mt_l, mt_g, ↓reduceIte, Nat.reduceEqDiff, Nat.reduceLeDiff, ml_0, ml_1, ml_2, ml_3, ml_4, ml_5, ml_6, ml_7, ml_8, ml_9, ml_10, ml_11, ml_12, ml_13, ml_14, ml_16, ml_31, ml_32, ml_40, ml_42, ml_48, ml_50, ml_57, ml_59, ml_60, ml_63, ml_98, ml_100, ml_103, ml_104, ml_105, ml_106, ml_107, ml_108, ml_109, ml_110, ml_111, ml_112, ml_113, ml_114, ml_115, ml_120, ml_127, ml_176, ml_180, ml_200, ml_254, ml_255, ml_256, ml_300, ml_728, ml_832, ml_65536, ch, h2]
theorem mc_countWash (hC : mt_C μ j σ) (hok : mt_k σ) {m : Nat} (hm : m < 2) : ∃ a, f_X8_countWash μ j (nI m) = some (a, ()) ∧ mt_C a j (ms_sw σ 5 (fun g => if σ (4 + 6 * g + 4) = m + 1 then σ (4 + 6 * g + 5) + 1 else σ (4 + 6 * g + 5))) ∧ mt_fr (mt_sC j) μ a := by
  have h16 := hok.1
  unfold f_X8_countWash
  refine mc_each (fun n a _ i => f_X8_countWash_L2 j n a (nI m) i) (fun g => if σ (4 + 6 * g + 4) = m + 1 then σ (4 + 6 * g + 5) + 1 else σ (4 + 6 * g + 5)) (fun _ => 0) (fun a _ => some (a, ())) hC h16 (by decide) ?_ ?_
  · intro n a x h
    have cn := mt_J_n h hC
    simp (discharger := omega) only [f_X8_countWash_L2, nI_add, mt_mul, nI_clamp, nI_leI, nI_ltI, nI_eq, mt_in_t, mt_b1, mt_b2, mt_b3, mt_b4, mt_l, mt_g, ↓reduceIte, Nat.reduceEqDiff, Nat.reduceLeDiff, ml_0, ml_1, ml_2, ml_3, ml_4, ml_5, ml_6, ml_7, ml_8, ml_9, ml_10, ml_11, ml_12, ml_13, ml_14, ml_16, ml_31, ml_32, ml_40, ml_42, ml_48, ml_50, ml_57, ml_59, ml_60, ml_63, ml_98, ml_100, ml_103, ml_104, ml_105, ml_106, ml_107, ml_108, ml_109, ml_110, ml_111, ml_112, ml_113, ml_114, ml_115, ml_120, ml_127, ml_176, ml_180, ml_200, ml_254, ml_255, ml_256, ml_300, ml_728, ml_832, ml_65536, cn, Nat.le_refl]
  · intro n a i hi h
    have cn := mt_J_n h hC
    have e4 : a j 5 i = nI (σ (4 + 6 * i + 4)) := mt_J_o h hC (w' := 4) (by decide) (by decide) hi
    have e5 : a j 6 i = nI (σ (4 + 6 * i + 5)) := mt_J_s h hi (Nat.le_refl i)
    have q := mc_isInC e4 (hok.2 i hi).2.2.2.2 (by omega) hm
    have hi' : ¬ σ 0 ≤ i := by omega
    by_cases h1 : σ (4 + 6 * i + 4) = m + 1
    · left
      simp (discharger := omega) only [f_X8_countWash_L2, nI_add, mt_mul, nI_clamp, nI_leI, nI_ltI, nI_eq, mt_in_t, mt_b1, mt_b2, mt_b3, mt_b4, mt_l, mt_g, ↓reduceIte, Nat.reduceEqDiff, Nat.reduceLeDiff, ml_0, ml_1, ml_2, ml_3, ml_4, ml_5, ml_6, ml_7, ml_8, ml_9, ml_10, ml_11, ml_12, ml_13, ml_14, ml_16, ml_31, ml_32, ml_40, ml_42, ml_48, ml_50, ml_57, ml_59, ml_60, ml_63, ml_98, ml_100, ml_103, ml_104, ml_105, ml_106, ml_107, ml_108, ml_109, ml_110, ml_111, ml_112, ml_113, ml_114, ml_115, ml_120, ml_127, ml_176, ml_180, ml_200, ml_254, ml_255, ml_256, ml_300, ml_728, ml_832, ml_65536, cn, q, hi', h1, e5]
    · right
      refine ⟨if_neg h1, ?_⟩
      simp (discharger := omega) only [f_X8_countWash_L2, nI_add, mt_mul, nI_clamp, nI_leI, nI_ltI, nI_eq, mt_in_t, mt_b1, mt_b2, mt_b3, mt_b4, mt_l, mt_g, ↓reduceIte, Nat.reduceEqDiff, Nat.reduceLeDiff, ml_0, ml_1, ml_2, ml_3, ml_4, ml_5, ml_6, ml_7, ml_8, ml_9, ml_10, ml_11, ml_12, ml_13, ml_14, ml_16, ml_31, ml_32, ml_40, ml_42, ml_48, ml_50, ml_57, ml_59, ml_60, ml_63, ml_98, ml_100, ml_103, ml_104, ml_105, ml_106, ml_107, ml_108, ml_109, ml_110, ml_111, ml_112, ml_113, ml_114, ml_115, ml_120, ml_127, ml_176, ml_180, ml_200, ml_254, ml_255, ml_256, ml_300, ml_728, ml_832, ml_65536, cn, q, hi', h1]
theorem mc_returnToBags (hC : mt_C μ j σ) (hok : mt_k σ) {m : Nat} (hm : m < 2) : ∃ a, f_X8_returnToBags μ j (nI m) = some (a, ()) ∧ mt_C a j (ms_sw σ 4 (fun g => if σ (4 + 6 * g + 4) = m + 1 then 0 else σ (4 + 6 * g + 4))) ∧ mt_fr (mt_sC j) μ a := by
  have h16 := hok.1
  unfold f_X8_returnToBags
  refine mc_each (fun n a _ i => f_X8_returnToBags_L2 j n a (nI m) i) (fun g => if σ (4 + 6 * g + 4) = m + 1 then 0 else σ (4 + 6 * g + 4)) (fun _ => 0) (fun a _ => some (a, ())) hC h16 (by decide) ?_ ?_
  · intro n a x h
    have cn := mt_J_n h hC
    simp (discharger := omega) only [f_X8_returnToBags_L2, nI_add, mt_mul, nI_clamp, nI_leI, nI_ltI, nI_eq, mt_in_t, mt_b1, mt_b2, mt_b3, mt_b4, mt_l, mt_g, ↓reduceIte, Nat.reduceEqDiff, Nat.reduceLeDiff, ml_0, ml_1, ml_2, ml_3, ml_4, ml_5, ml_6, ml_7, ml_8, ml_9, ml_10, ml_11, ml_12, ml_13, ml_14, ml_16, ml_31, ml_32, ml_40, ml_42, ml_48, ml_50, ml_57, ml_59, ml_60, ml_63, ml_98, ml_100, ml_103, ml_104, ml_105, ml_106, ml_107, ml_108, ml_109, ml_110, ml_111, ml_112, ml_113, ml_114, ml_115, ml_120, ml_127, ml_176, ml_180, ml_200, ml_254, ml_255, ml_256, ml_300, ml_728, ml_832, ml_65536, cn, Nat.le_refl]
  · intro n a i hi h
    have cn := mt_J_n h hC
    have e4 : a j 5 i = nI (σ (4 + 6 * i + 4)) := mt_J_s h hi (Nat.le_refl i)
    have q := mc_isInC e4 (hok.2 i hi).2.2.2.2 (by omega) hm
    have hi' : ¬ σ 0 ≤ i := by omega
    by_cases h1 : σ (4 + 6 * i + 4) = m + 1
    · left
      simp (discharger := omega) only [f_X8_returnToBags_L2, nI_add, mt_mul, nI_clamp, nI_leI, nI_ltI, nI_eq, mt_in_t, mt_b1, mt_b2, mt_b3, mt_b4, mt_l, mt_g, ↓reduceIte, Nat.reduceEqDiff, Nat.reduceLeDiff, ml_0, ml_1, ml_2, ml_3, ml_4, ml_5, ml_6, ml_7, ml_8, ml_9, ml_10, ml_11, ml_12, ml_13, ml_14, ml_16, ml_31, ml_32, ml_40, ml_42, ml_48, ml_50, ml_57, ml_59, ml_60, ml_63, ml_98, ml_100, ml_103, ml_104, ml_105, ml_106, ml_107, ml_108, ml_109, ml_110, ml_111, ml_112, ml_113, ml_114, ml_115, ml_120, ml_127, ml_176, ml_180, ml_200, ml_254, ml_255, ml_256, ml_300, ml_728, ml_832, ml_65536, cn, q, hi', h1]
    · right
      refine ⟨if_neg h1, ?_⟩
      simp (discharger := omega) only [f_X8_returnToBags_L2, nI_add, mt_mul, nI_clamp, nI_leI, nI_ltI, nI_eq, mt_in_t, mt_b1, mt_b2, mt_b3, mt_b4, mt_l, mt_g, ↓reduceIte, Nat.reduceEqDiff, Nat.reduceLeDiff, ml_0, ml_1, ml_2, ml_3, ml_4, ml_5, ml_6, ml_7, ml_8, ml_9, ml_10, ml_11, ml_12, ml_13, ml_14, ml_16, ml_31, ml_32, ml_40, ml_42, ml_48, ml_50, ml_57, ml_59, ml_60, ml_63, ml_98, ml_100, ml_103, ml_104, ml_105, ml_106, ml_107, ml_108, ml_109, ml_110, ml_111, ml_112, ml_113, ml_114, ml_115, ml_120, ml_127, ml_176, ml_180, ml_200, ml_254, ml_255, ml_256, ml_300, ml_728, ml_832, ml_65536, cn, q, hi', h1]
/-- a sock that is lost, told of the state as the last step finds it (its stains are those that are left) -/
abbrev ms_ls (σ : Nat → Nat) (m g : Nat) : Prop := (σ (4 + 6 * g + 4) = m + 1 ∧ ms_held σ m % 2 = 1) ∧ σ (4 + 6 * g + 1) = 1 ∧ σ (4 + 6 * g + 3) = 0 ∧ ms_ln σ m g (σ 0)
theorem mc_single {a : fw_M} {i m : Nat} {v : Nat → Nat} (hC : mt_C μ j σ) (hok : mt_k σ) (hi : i < σ 0) (hin : σ (4 + 6 * i + 4) = m + 1) (hm : m < 2) (hv : ∀ g, g < σ 0 → v g = if ms_ls σ m g then 3 else σ (4 + 6 * g + 4)) (h : mt_J μ a j σ 4 v i) : f_X8_isCleanSingleSock a j (nI i) = some (nI (if σ (4 + 6 * i + 1) = 1 ∧ σ (4 + 6 * i + 3) = 0 ∧ ms_ln σ m i (σ 0) then 1 else 0)) := by
  have h16 := hok.1
  have cn := mt_J_n h hC
  have i1 : a j 2 i = nI (σ (4 + 6 * i + 1)) := mt_J_o h hC (w' := 1) (by decide) (by decide) hi
  have i2 : a j 3 i = nI (σ (4 + 6 * i + 2)) := mt_J_o h hC (w' := 2) (by decide) (by decide) hi
  have i3 : a j 4 i = nI (σ (4 + 6 * i + 3)) := mt_J_o h hC (w' := 3) (by decide) (by decide) hi
  have i4 : a j 5 i = nI (σ (4 + 6 * i + 4)) := mt_J_s h hi (Nat.le_refl i)
  have j1 := (hok.2 i hi).2.1
  have j2 := (hok.2 i hi).2.2.1
  have j3 := (hok.2 i hi).2.2.2.1
  by_cases hs : σ (4 + 6 * i + 1) = 1
  · by_cases ht : σ (4 + 6 * i + 3) = 0
    · have key : f_X8_isCleanSingleSock_L22 a j 1000 (nI i) (nI 0) = some (nI (if ms_ln σ m i (σ 0) then 1 else 0)) := by
       refine mt_while (L := fun n (_ : Unit) k => f_X8_isCleanSingleSock_L22 a j n (nI i) k) (I := fun k _ => ms_ln σ m i k) (P := fun r => r = some (nI (if ms_ln σ m i (σ 0) then 1 else 0))) (N := σ 0) ?_ ?_ (σ 0) 1000 () 0 (by omega) (by omega) (fun q hq => absurd hq (Nat.not_lt_zero q))
       · intro n _ hl
         rw [if_pos hl]
         simp (discharger := omega) only [f_X8_isCleanSingleSock_L22, nI_add, mt_mul, nI_clamp, nI_leI, nI_ltI, nI_eq, mt_in_t, mt_b1, mt_b2, mt_b3, mt_b4, mt_l, mt_g, ↓reduceIte, Nat.reduceEqDiff, Nat.reduceLeDiff, ml_0, ml_1, ml_2, ml_3, ml_4, ml_5, ml_6, ml_7, ml_8, ml_9, ml_10, ml_11, ml_12, ml_13, ml_14, ml_16, ml_31, ml_32, ml_40, ml_42, ml_48, ml_50, ml_57, ml_59, ml_60, ml_63, ml_98, ml_100, ml_103, ml_104, ml_105, ml_106, ml_107, ml_108, ml_109, ml_110, ml_111, ml_112, ml_113, ml_114, ml_115, ml_120, ml_127, ml_176, ml_180, ml_200, ml_254, ml_255, ml_256, ml_300, ml_728, ml_832, ml_65536, cn, Nat.le_refl]
       · intro n _ k hk hl
         have k1 : a j 2 k = nI (σ (4 + 6 * k + 1)) := mt_J_o h hC (w' := 1) (by decide) (by decide) hk
         have k2 : a j 3 k = nI (σ (4 + 6 * k + 2)) := mt_J_o h hC (w' := 2) (by decide) (by decide) hk
         have k4 := h.2 k hk
         have b1 := (hok.2 k hk).2.1
         have b2 := (hok.2 k hk).2.2.1
         have b4 := (hok.2 k hk).2.2.2.2
         have hk' : ¬ σ 0 ≤ k := by omega
         by_cases q1 : k = i
         · left
           refine ⟨(), fun q hq => ?_, ?_⟩
           · by_cases hqk : q = k
             · exact fun z => z.1 (hqk.trans q1)
             · exact hl q (by omega)
           · subst q1
             simp (discharger := omega) only [f_X8_isCleanSingleSock_L22, nI_add, mt_mul, nI_clamp, nI_leI, nI_ltI, nI_eq, mt_in_t, mt_b1, mt_b2, mt_b3, mt_b4, mt_l, mt_g, ↓reduceIte, Nat.reduceEqDiff, Nat.reduceLeDiff, ml_0, ml_1, ml_2, ml_3, ml_4, ml_5, ml_6, ml_7, ml_8, ml_9, ml_10, ml_11, ml_12, ml_13, ml_14, ml_16, ml_31, ml_32, ml_40, ml_42, ml_48, ml_50, ml_57, ml_59, ml_60, ml_63, ml_98, ml_100, ml_103, ml_104, ml_105, ml_106, ml_107, ml_108, ml_109, ml_110, ml_111, ml_112, ml_113, ml_114, ml_115, ml_120, ml_127, ml_176, ml_180, ml_200, ml_254, ml_255, ml_256, ml_300, ml_728, ml_832, ml_65536, cn, hk']
         · by_cases q2 : σ (4 + 6 * k + 1) = 1
           · by_cases q3 : σ (4 + 6 * k + 2) = σ (4 + 6 * i + 2)
             · have hnl : ¬ ms_ls σ m k := fun z => z.2.2.2 i hi ⟨fun e => q1 e.symm, hin, hs, q3.symm⟩
               have k4' : a j 5 k = nI (σ (4 + 6 * k + 4)) := by
                 have hvk := hv k hk
                 rw [if_neg hnl] at hvk
                 rw [hvk, ite_self] at k4
                 exact k4
               by_cases q4 : σ (4 + 6 * k + 4) = m + 1
               · right
                 rw [if_neg (fun z => z k hk ⟨q1, q4, q2, q3⟩)]
                 simp (discharger := omega) only [f_X8_isCleanSingleSock_L22, nI_add, mt_mul, nI_clamp, nI_leI, nI_ltI, nI_eq, mt_in_t, mt_b1, mt_b2, mt_b3, mt_b4, mt_l, mt_g, ↓reduceIte, Nat.reduceEqDiff, Nat.reduceLeDiff, ml_0, ml_1, ml_2, ml_3, ml_4, ml_5, ml_6, ml_7, ml_8, ml_9, ml_10, ml_11, ml_12, ml_13, ml_14, ml_16, ml_31, ml_32, ml_40, ml_42, ml_48, ml_50, ml_57, ml_59, ml_60, ml_63, ml_98, ml_100, ml_103, ml_104, ml_105, ml_106, ml_107, ml_108, ml_109, ml_110, ml_111, ml_112, ml_113, ml_114, ml_115, ml_120, ml_127, ml_176, ml_180, ml_200, ml_254, ml_255, ml_256, ml_300, ml_728, ml_832, ml_65536, cn, hk', q1, q2, q3, q4, k1, k2, k4', i2, i4, hin]
               · left
                 refine ⟨(), fun q hq => ?_, ?_⟩
                 · by_cases hqk : q = k
                   · subst hqk; exact fun z => q4 z.2.1
                   · exact hl q (by omega)
                 · simp (discharger := omega) only [f_X8_isCleanSingleSock_L22, nI_add, mt_mul, nI_clamp, nI_leI, nI_ltI, nI_eq, mt_in_t, mt_b1, mt_b2, mt_b3, mt_b4, mt_l, mt_g, ↓reduceIte, Nat.reduceEqDiff, Nat.reduceLeDiff, ml_0, ml_1, ml_2, ml_3, ml_4, ml_5, ml_6, ml_7, ml_8, ml_9, ml_10, ml_11, ml_12, ml_13, ml_14, ml_16, ml_31, ml_32, ml_40, ml_42, ml_48, ml_50, ml_57, ml_59, ml_60, ml_63, ml_98, ml_100, ml_103, ml_104, ml_105, ml_106, ml_107, ml_108, ml_109, ml_110, ml_111, ml_112, ml_113, ml_114, ml_115, ml_120, ml_127, ml_176, ml_180, ml_200, ml_254, ml_255, ml_256, ml_300, ml_728, ml_832, ml_65536, cn, hk', q1, q2, q3, q4, k1, k2, k4', i2, i4, hin]
             · left
               refine ⟨(), fun q hq => ?_, ?_⟩
               · by_cases hqk : q = k
                 · subst hqk; exact fun z => q3 z.2.2.2
                 · exact hl q (by omega)
               · by_cases q4 : (if k < i then v k else σ (4 + 6 * k + 4)) = m + 1
                 · rw [q4] at k4
                   simp (discharger := omega) only [f_X8_isCleanSingleSock_L22, nI_add, mt_mul, nI_clamp, nI_leI, nI_ltI, nI_eq, mt_in_t, mt_b1, mt_b2, mt_b3, mt_b4, mt_l, mt_g, ↓reduceIte, Nat.reduceEqDiff, Nat.reduceLeDiff, ml_0, ml_1, ml_2, ml_3, ml_4, ml_5, ml_6, ml_7, ml_8, ml_9, ml_10, ml_11, ml_12, ml_13, ml_14, ml_16, ml_31, ml_32, ml_40, ml_42, ml_48, ml_50, ml_57, ml_59, ml_60, ml_63, ml_98, ml_100, ml_103, ml_104, ml_105, ml_106, ml_107, ml_108, ml_109, ml_110, ml_111, ml_112, ml_113, ml_114, ml_115, ml_120, ml_127, ml_176, ml_180, ml_200, ml_254, ml_255, ml_256, ml_300, ml_728, ml_832, ml_65536, cn, hk', q1, q2, q3, k1, k2, k4, i2, i4, hin]
                 · have hlt : (if k < i then v k else σ (4 + 6 * k + 4)) < 4 := by
                     have hvk := hv k hk
                     rw [hvk]
                     split
                     · split <;> omega
                     · exact b4
                   simp (discharger := omega) only [f_X8_isCleanSingleSock_L22, nI_add, mt_mul, nI_clamp, nI_leI, nI_ltI, nI_eq, mt_in_t, mt_b1, mt_b2, mt_b3, mt_b4, mt_l, mt_g, ↓reduceIte, Nat.reduceEqDiff, Nat.reduceLeDiff, ml_0, ml_1, ml_2, ml_3, ml_4, ml_5, ml_6, ml_7, ml_8, ml_9, ml_10, ml_11, ml_12, ml_13, ml_14, ml_16, ml_31, ml_32, ml_40, ml_42, ml_48, ml_50, ml_57, ml_59, ml_60, ml_63, ml_98, ml_100, ml_103, ml_104, ml_105, ml_106, ml_107, ml_108, ml_109, ml_110, ml_111, ml_112, ml_113, ml_114, ml_115, ml_120, ml_127, ml_176, ml_180, ml_200, ml_254, ml_255, ml_256, ml_300, ml_728, ml_832, ml_65536, cn, hk', q1, q2, q3, q4, k1, k2, k4, i2, i4, hin]
           · left
             refine ⟨(), fun q hq => ?_, ?_⟩
             · by_cases hqk : q = k
               · subst hqk; exact fun z => q2 z.2.2.1
               · exact hl q (by omega)
             · have q3 : σ (4 + 6 * k + 1) = 0 := by omega
               simp (discharger := omega) only [f_X8_isCleanSingleSock_L22, nI_add, mt_mul, nI_clamp, nI_leI, nI_ltI, nI_eq, mt_in_t, mt_b1, mt_b2, mt_b3, mt_b4, mt_l, mt_g, ↓reduceIte, Nat.reduceEqDiff, Nat.reduceLeDiff, ml_0, ml_1, ml_2, ml_3, ml_4, ml_5, ml_6, ml_7, ml_8, ml_9, ml_10, ml_11, ml_12, ml_13, ml_14, ml_16, ml_31, ml_32, ml_40, ml_42, ml_48, ml_50, ml_57, ml_59, ml_60, ml_63, ml_98, ml_100, ml_103, ml_104, ml_105, ml_106, ml_107, ml_108, ml_109, ml_110, ml_111, ml_112, ml_113, ml_114, ml_115, ml_120, ml_127, ml_176, ml_180, ml_200, ml_254, ml_255, ml_256, ml_300, ml_728, ml_832, ml_65536, cn, hk', q1, q3, k1]
      simp (discharger := omega) only [f_X8_isCleanSingleSock, nI_add, mt_mul, nI_clamp, nI_leI, nI_ltI, nI_eq, mt_in_t, mt_b1, mt_b2, mt_b3, mt_b4, mt_l, mt_g, ↓reduceIte, Nat.reduceEqDiff, Nat.reduceLeDiff, ml_0, ml_1, ml_2, ml_3, ml_4, ml_5, ml_6, ml_7, ml_8, ml_9, ml_10, ml_11, ml_12, ml_13, ml_14, ml_16, ml_31, ml_32, ml_40, ml_42, ml_48, ml_50, ml_57, ml_59, ml_60, ml_63, ml_98, ml_100, ml_103, ml_104, ml_105, ml_106, ml_107, ml_108, ml_109, ml_110, ml_111, ml_112, ml_113, ml_114, ml_115, ml_120, ml_127, ml_176, ml_180, ml_200, ml_254, ml_255, ml_256, ml_300, ml_728, ml_832, ml_65536, i1, i3, hs, ht, key, true_and]
    · simp (discharger := omega) only [f_X8_isCleanSingleSock, nI_add, mt_mul, nI_clamp, nI_leI, nI_ltI, nI_eq, mt_in_t, mt_b1, mt_b2, mt_b3, mt_b4, mt_l, mt_g, ↓reduceIte, Nat.reduceEqDiff, Nat.reduceLeDiff, ml_0, ml_1, ml_2, ml_3, ml_4, ml_5, ml_6, ml_7, ml_8, ml_9, ml_10, ml_11, ml_12, ml_13, ml_14, ml_16, ml_31, ml_32, ml_40, ml_42, ml_48, ml_50, ml_57, ml_59, ml_60, ml_63, ml_98, ml_100, ml_103, ml_104, ml_105, ml_106, ml_107, ml_108, ml_109, ml_110, ml_111, ml_112, ml_113, ml_114, ml_115, ml_120, ml_127, ml_176, ml_180, ml_200, ml_254, ml_255, ml_256, ml_300, ml_728, ml_832, ml_65536, i1, i3, hs, ht, false_and, and_false]
  · have hs0 : σ (4 + 6 * i + 1) = 0 := by omega
    simp (discharger := omega) only [f_X8_isCleanSingleSock, nI_add, mt_mul, nI_clamp, nI_leI, nI_ltI, nI_eq, mt_in_t, mt_b1, mt_b2, mt_b3, mt_b4, mt_l, mt_g, ↓reduceIte, Nat.reduceEqDiff, Nat.reduceLeDiff, ml_0, ml_1, ml_2, ml_3, ml_4, ml_5, ml_6, ml_7, ml_8, ml_9, ml_10, ml_11, ml_12, ml_13, ml_14, ml_16, ml_31, ml_32, ml_40, ml_42, ml_48, ml_50, ml_57, ml_59, ml_60, ml_63, ml_98, ml_100, ml_103, ml_104, ml_105, ml_106, ml_107, ml_108, ml_109, ml_110, ml_111, ml_112, ml_113, ml_114, ml_115, ml_120, ml_127, ml_176, ml_180, ml_200, ml_254, ml_255, ml_256, ml_300, ml_728, ml_832, ml_65536, i1, hs0, false_and, and_false]
theorem mc_loseSocks (hC : mt_C μ j σ) (hok : mt_k σ) {m : Nat} (hm : m < 2) : ∃ a, f_X8_loseSocks μ j (nI m) = some (a, nI (mt_sm (fun g => if ms_ls σ m g then 1 else 0) (σ 0))) ∧ mt_C a j (ms_sw σ 4 (fun g => if ms_ls σ m g then 3 else σ (4 + 6 * g + 4))) ∧ mt_fr (mt_sC j) μ a := by
  have h16 := hok.1
  have e := mc_countIn hC hok hm
  have eb := ms_held_lt hok m
  have key : ∀ o, o < 2 → (o = 1 ↔ ms_held σ m % 2 = 1) → ∃ a, f_X8_loseSocks_L22 j 1000 μ (nI m) (nI o) (nI 0) (nI 0) = some (a, nI (mt_sm (fun g => if ms_ls σ m g then 1 else 0) (σ 0))) ∧ mt_C a j (ms_sw σ 4 (fun g => if ms_ls σ m g then 3 else σ (4 + 6 * g + 4))) ∧ mt_fr (mt_sC j) μ a := by
    intro o ho hodd
    refine mc_each (fun n a x i => f_X8_loseSocks_L22 j n a (nI m) (nI o) x i) (fun g => if ms_ls σ m g then 3 else σ (4 + 6 * g + 4)) (fun g => if ms_ls σ m g then 1 else 0) (fun a x => some (a, x)) hC h16 (by decide) ?_ ?_
    · intro n a x h
      have cn := mt_J_n h hC
      simp (discharger := omega) only [f_X8_loseSocks_L22, nI_add, mt_mul, nI_clamp, nI_leI, nI_ltI, nI_eq, mt_in_t, mt_b1, mt_b2, mt_b3, mt_b4, mt_l, mt_g, ↓reduceIte, Nat.reduceEqDiff, Nat.reduceLeDiff, ml_0, ml_1, ml_2, ml_3, ml_4, ml_5, ml_6, ml_7, ml_8, ml_9, ml_10, ml_11, ml_12, ml_13, ml_14, ml_16, ml_31, ml_32, ml_40, ml_42, ml_48, ml_50, ml_57, ml_59, ml_60, ml_63, ml_98, ml_100, ml_103, ml_104, ml_105, ml_106, ml_107, ml_108, ml_109, ml_110, ml_111, ml_112, ml_113, ml_114, ml_115, ml_120, ml_127, ml_176, ml_180, ml_200, ml_254, ml_255, ml_256, ml_300, ml_728, ml_832, ml_65536, cn, Nat.le_refl]
    · intro n a i hi h
      have cn := mt_J_n h hC
      have e4 : a j 5 i = nI (σ (4 + 6 * i + 4)) := mt_J_s h hi (Nat.le_refl i)
      have q := mc_isInC e4 (hok.2 i hi).2.2.2.2 (by omega) hm
      have hi' : ¬ σ 0 ≤ i := by omega
      by_cases h0 : o = 0
      · right
        have hn : ¬ ms_ls σ m i := fun z => by have := hodd.mpr z.1.2; omega
        refine ⟨if_neg hn, ?_⟩
        subst h0
        simp (discharger := omega) only [f_X8_loseSocks_L22, nI_add, mt_mul, nI_clamp, nI_leI, nI_ltI, nI_eq, mt_in_t, mt_b1, mt_b2, mt_b3, mt_b4, mt_l, mt_g, ↓reduceIte, Nat.reduceEqDiff, Nat.reduceLeDiff, ml_0, ml_1, ml_2, ml_3, ml_4, ml_5, ml_6, ml_7, ml_8, ml_9, ml_10, ml_11, ml_12, ml_13, ml_14, ml_16, ml_31, ml_32, ml_40, ml_42, ml_48, ml_50, ml_57, ml_59, ml_60, ml_63, ml_98, ml_100, ml_103, ml_104, ml_105, ml_106, ml_107, ml_108, ml_109, ml_110, ml_111, ml_112, ml_113, ml_114, ml_115, ml_120, ml_127, ml_176, ml_180, ml_200, ml_254, ml_255, ml_256, ml_300, ml_728, ml_832, ml_65536, cn, hi', hn, mt_sm, Nat.add_zero]
      · have ho1 : o = 1 := by omega
        by_cases h1 : σ (4 + 6 * i + 4) = m + 1
        · have s := mc_single hC hok hi h1 hm (fun g _ => rfl) h
          by_cases h2 : σ (4 + 6 * i + 1) = 1 ∧ σ (4 + 6 * i + 3) = 0 ∧ ms_ln σ m i (σ 0)
          · left
            have hy : ms_ls σ m i := ⟨⟨h1, hodd.mp ho1⟩, h2⟩
            rw [if_pos h2] at s
            simp (discharger := omega) only [f_X8_loseSocks_L22, nI_add, mt_mul, nI_clamp, nI_leI, nI_ltI, nI_eq, mt_in_t, mt_b1, mt_b2, mt_b3, mt_b4, mt_l, mt_g, ↓reduceIte, Nat.reduceEqDiff, Nat.reduceLeDiff, ml_0, ml_1, ml_2, ml_3, ml_4, ml_5, ml_6, ml_7, ml_8, ml_9, ml_10, ml_11, ml_12, ml_13, ml_14, ml_16, ml_31, ml_32, ml_40, ml_42, ml_48, ml_50, ml_57, ml_59, ml_60, ml_63, ml_98, ml_100, ml_103, ml_104, ml_105, ml_106, ml_107, ml_108, ml_109, ml_110, ml_111, ml_112, ml_113, ml_114, ml_115, ml_120, ml_127, ml_176, ml_180, ml_200, ml_254, ml_255, ml_256, ml_300, ml_728, ml_832, ml_65536, cn, hi', h0, q, h1, s, if_pos hy, mt_sm]
          · right
            have hn : ¬ ms_ls σ m i := fun z => h2 z.2
            rw [if_neg h2] at s
            refine ⟨if_neg hn, ?_⟩
            simp (discharger := omega) only [f_X8_loseSocks_L22, nI_add, mt_mul, nI_clamp, nI_leI, nI_ltI, nI_eq, mt_in_t, mt_b1, mt_b2, mt_b3, mt_b4, mt_l, mt_g, ↓reduceIte, Nat.reduceEqDiff, Nat.reduceLeDiff, ml_0, ml_1, ml_2, ml_3, ml_4, ml_5, ml_6, ml_7, ml_8, ml_9, ml_10, ml_11, ml_12, ml_13, ml_14, ml_16, ml_31, ml_32, ml_40, ml_42, ml_48, ml_50, ml_57, ml_59, ml_60, ml_63, ml_98, ml_100, ml_103, ml_104, ml_105, ml_106, ml_107, ml_108, ml_109, ml_110, ml_111, ml_112, ml_113, ml_114, ml_115, ml_120, ml_127, ml_176, ml_180, ml_200, ml_254, ml_255, ml_256, ml_300, ml_728, ml_832, ml_65536, cn, hi', h0, q, h1, s, if_neg hn, mt_sm, Nat.add_zero]
        · right
          have hn : ¬ ms_ls σ m i := fun z => h1 z.1.1
          refine ⟨if_neg hn, ?_⟩
          simp (discharger := omega) only [f_X8_loseSocks_L22, nI_add, mt_mul, nI_clamp, nI_leI, nI_ltI, nI_eq, mt_in_t, mt_b1, mt_b2, mt_b3, mt_b4, mt_l, mt_g, ↓reduceIte, Nat.reduceEqDiff, Nat.reduceLeDiff, ml_0, ml_1, ml_2, ml_3, ml_4, ml_5, ml_6, ml_7, ml_8, ml_9, ml_10, ml_11, ml_12, ml_13, ml_14, ml_16, ml_31, ml_32, ml_40, ml_42, ml_48, ml_50, ml_57, ml_59, ml_60, ml_63, ml_98, ml_100, ml_103, ml_104, ml_105, ml_106, ml_107, ml_108, ml_109, ml_110, ml_111, ml_112, ml_113, ml_114, ml_115, ml_120, ml_127, ml_176, ml_180, ml_200, ml_254, ml_255, ml_256, ml_300, ml_728, ml_832, ml_65536, cn, hi', h0, q, h1, if_neg hn, mt_sm, Nat.add_zero]
  by_cases h1 : ms_held σ m % 2 = 1
  · have k := key 1 (by decide) ⟨fun _ => h1, fun _ => rfl⟩
    simp (discharger := omega) only [f_X8_loseSocks, nI_add, mt_mul, nI_clamp, nI_leI, nI_ltI, nI_eq, mt_in_t, mt_b1, mt_b2, mt_b3, mt_b4, mt_l, mt_g, ↓reduceIte, Nat.reduceEqDiff, Nat.reduceLeDiff, ml_0, ml_1, ml_2, ml_3, ml_4, ml_5, ml_6, ml_7, ml_8, ml_9, ml_10, ml_11, ml_12, ml_13, ml_14, ml_16, ml_31, ml_32, ml_40, ml_42, ml_48, ml_50, ml_57, ml_59, ml_60, ml_63, ml_98, ml_100, ml_103, ml_104, ml_105, ml_106, ml_107, ml_108, ml_109, ml_110, ml_111, ml_112, ml_113, ml_114, ml_115, ml_120, ml_127, ml_176, ml_180, ml_200, ml_254, ml_255, ml_256, ml_300, ml_728, ml_832, ml_65536, e, mt_rem2, h1]
    exact k
  · have k := key 0 (by decide) ⟨fun z => absurd z (by decide), fun z => absurd z h1⟩
    simp (discharger := omega) only [f_X8_loseSocks, nI_add, mt_mul, nI_clamp, nI_leI, nI_ltI, nI_eq, mt_in_t, mt_b1, mt_b2, mt_b3, mt_b4, mt_l, mt_g, ↓reduceIte, Nat.reduceEqDiff, Nat.reduceLeDiff, ml_0, ml_1, ml_2, ml_3, ml_4, ml_5, ml_6, ml_7, ml_8, ml_9, ml_10, ml_11, ml_12, ml_13, ml_14, ml_16, ml_31, ml_32, ml_40, ml_42, ml_48, ml_50, ml_57, ml_59, ml_60, ml_63, ml_98, ml_100, ml_103, ml_104, ml_105, ml_106, ml_107, ml_108, ml_109, ml_110, ml_111, ml_112, ml_113, ml_114, ml_115, ml_120, ml_127, ml_176, ml_180, ml_200, ml_254, ml_255, ml_256, ml_300, ml_728, ml_832, ml_65536, e, mt_rem2, h1]
    exact k
end MW
