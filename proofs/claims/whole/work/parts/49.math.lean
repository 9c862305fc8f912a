/-! the mathematics, 10: damage from the sets of stains; the best temperature -/
theorem mt_tbm1 : ∀ c, c < 32 → (4294967295 : Nat).testBit c = true := by decide +kernel
theorem mt_shr8 : ∀ r, r < 256 → ∀ c, c < 8 → (nI r >>> (nI c &&& nI 31)) &&& nI 1 = nI (if r.testBit c = true then 1 else 0) := by decide +kernel
theorem mt_got1 : ∀ k, k < 8 → ∀ x, x < 256 → ms_pc (2 ^ k &&& (x ^^^ 4294967295)) = if x ||| 2 ^ k = x then 0 else 1 := by decide +kernel
theorem mt_got2 : ∀ k, k < 8 → ∀ x, x < 256 → x ||| (2 ^ k &&& (x ^^^ 4294967295)) = x ||| 2 ^ k := by decide +kernel
theorem mt_and255 : ∀ x, x < 256 → x &&& 255 = x := by decide +kernel
theorem mt_sm_rm {f : Nat → Nat} {g : Nat} : ∀ {n : Nat}, g < n → mt_sm f n = f g + mt_sm (fun q => if q = g then 0 else f q) n
  | 0, h => absurd h (Nat.not_lt_zero g)
  | n + 1, h => by
    show mt_sm f n + f n = f g + (mt_sm (fun q => if q = g then 0 else f q) n + if n = g then 0 else f n)
    by_cases hn : n = g
    · subst hn
      have h1 : mt_sm f n = mt_sm (fun q => if q = n then 0 else f q) n := mt_sm_c (fun q hq => by rw [if_neg (by omega)])
      rw [if_pos rfl, ← h1]
      omega
    · rw [if_neg hn, mt_sm_rm (f := f) (g := g) (n := n) (by omega)]
      omega
theorem mt_sm_one {f : Nat → Nat} {n g : Nat} (hg : g < n) (h1 : f g = 1) : mt_sm f n = 1 ↔ ∀ q, q < n → q ≠ g → f q = 0 := by
  rw [mt_sm_rm hg, h1]
  constructor
  · intro h q hq hne
    have hz : ¬ 0 < mt_sm (fun q => if q = g then 0 else f q) n := by omega
    rw [mt_sm_pos] at hz
    have h2 : ¬ 0 < (if q = g then 0 else f q) := fun z => hz ⟨q, hq, z⟩
    rw [if_neg hne] at h2
    omega
  · intro h
    rw [mt_sm_z (fun q hq => ?_)]
    by_cases hne : q = g
    · rw [if_pos hne]
    · rw [if_neg hne]
      exact h q hq hne
/-- how many socks of a colour lie in the machine, of the first i garments -/
def ms_sc (σ : Nat → Nat) (m c i : Nat) : Nat := mt_sm (fun g => if σ (4 + 6 * g + 4) = m + 1 ∧ σ (4 + 6 * g + 1) = 1 ∧ σ (4 + 6 * g + 2) = c then 1 else 0) i
section MZ
variable {μ : fw_M} {j : Nat} {σ : Nat → Nat} {B : Nat}
theorem mc_ssc (hC : mt_C μ j σ) (hok : mt_k σ) {m : Nat} (hm : m < 2) : ∃ r, r < 256 ∧ f_X8_singleSockColours μ j (nI m) = some (nI r) ∧ ∀ c, c < 8 → (r.testBit c = true ↔ ms_sc σ m c (σ 0) = 1) := by
  have h16 := hok.1
  have cn := hC.1
  unfold f_X8_singleSockColours
  refine mt_while (L := fun n (x : Nat × Nat) i => f_X8_singleSockColours_L7 μ j n (nI m) (nI x.1) (nI x.2) i) (I := fun i x => x.1 < 256 ∧ x.2 < 256 ∧ ∀ c, c < 8 → (x.1.testBit c = true ↔ 1 ≤ ms_sc σ m c i) ∧ (x.2.testBit c = true ↔ 2 ≤ ms_sc σ m c i)) (P := fun z => ∃ r, r < 256 ∧ z = some (nI r) ∧ ∀ c, c < 8 → (r.testBit c = true ↔ ms_sc σ m c (σ 0) = 1)) (N := σ 0) ?_ ?_ (σ 0) 1000 (0, 0) 0 (by omega) (by omega) ⟨by decide, by decide, fun c hc => ?_⟩
  · rintro n ⟨o, a⟩ ⟨h1, h2, h3⟩
    have h1 : o < 256 := h1
    refine ⟨o &&& (a ^^^ 4294967295), Nat.lt_of_le_of_lt Nat.and_le_left h1, ?_, fun c hc => ?_⟩
    · simp (discharger := omega) only [f_X8_singleSockColours_L7, nI_add, mt_mul, nI_clamp, nI_leI, nI_ltI, nI_eq, mt_in_t, mt_b1, mt_b2, mt_b3, mt_b4, mt_l, mt_g, ↓reduceIte, Nat.reduceEqDiff, Nat.reduceLeDiff, ml_0, ml_1, ml_2, ml_3, ml_4, ml_5, ml_6, ml_7, ml_8, ml_9, ml_10, ml_11, ml_12, ml_13, ml_14, ml_16, ml_31, ml_32, ml_40, ml_42, ml_48, ml_50, ml_57, ml_59, ml_60, ml_63, ml_98, ml_100, ml_103, ml_104, ml_105, ml_106, ml_107, ml_108, ml_109, ml_110, ml_111, ml_112, ml_113, ml_114, ml_115, ml_120, ml_127, ml_176, ml_180, ml_200, ml_254, ml_255, ml_256, ml_300, ml_728, ml_832, ml_65536, cn, ml_m1, mt_xor, fa_and, Nat.le_refl]
    · obtain ⟨q1, q2⟩ := h3 c hc
      have q1 : o.testBit c = true ↔ 1 ≤ ms_sc σ m c (σ 0) := q1
      have q2 : a.testBit c = true ↔ 2 ≤ ms_sc σ m c (σ 0) := q2
      rw [Nat.testBit_and, Nat.testBit_xor, mt_tbm1 c (by omega)]
      by_cases p1 : o.testBit c = true
      · by_cases p2 : a.testBit c = true
        · have := q2.mp p2
          simp only [p1, p2, Bool.true_and, Bool.xor_self, Bool.false_eq_true, false_iff]
          omega
        · have p3 : a.testBit c = false := by simpa using p2
          have := q1.mp p1
          have h5 : ¬ 2 ≤ ms_sc σ m c (σ 0) := fun z => p2 (q2.mpr z)
          simp only [p1, p3, Bool.true_and, Bool.false_xor, true_iff]
          omega
      · have p3 : o.testBit c = false := by simpa using p1
        have h5 : ¬ 1 ≤ ms_sc σ m c (σ 0) := fun z => p1 (q1.mpr z)
        simp only [p3, Bool.false_and, Bool.false_eq_true, false_iff]
        omega
  · rintro n ⟨o, a⟩ i hi ⟨h1, h2, h3⟩
    have h1 : o < 256 := h1
    have h2 : a < 256 := h2
    have h3 : ∀ c, c < 8 → (o.testBit c = true ↔ 1 ≤ ms_sc σ m c i) ∧ (a.testBit c = true ↔ 2 ≤ ms_sc σ m c i) := h3
    have e := mc_isIn hC hok hi hm
    have e1 : μ j 2 i = nI (σ (4 + 6 * i + 1)) := mt_C_g hC (w := 1) (by decide) hi
    have e2 : μ j 3 i = nI (σ (4 + 6 * i + 2)) := mt_C_g hC (w := 2) (by decide) hi
    have b1 := (hok.2 i hi).2.1
    have b2 := (hok.2 i hi).2.2.1
    have hi' : ¬ σ 0 ≤ i := by omega
    left
    by_cases p : σ (4 + 6 * i + 4) = m + 1 ∧ σ (4 + 6 * i + 1) = 1
    · obtain ⟨p1, p2⟩ := p
      refine ⟨(o ||| 2 ^ σ (4 + 6 * i + 2), a ||| (o &&& 2 ^ σ (4 + 6 * i + 2))), ⟨?_, ?_, fun c hc => ?_⟩, ?_⟩
      · exact Nat.or_lt_two_pow (n := 8) h1 (Nat.pow_lt_pow_right (by decide) b2)
      · exact Nat.or_lt_two_pow (n := 8) h2 (Nat.lt_of_le_of_lt Nat.and_le_left h1)
      · obtain ⟨q1, q2⟩ := h3 c hc
        have hs : ms_sc σ m c (i + 1) = ms_sc σ m c i + (if σ (4 + 6 * i + 4) = m + 1 ∧ σ (4 + 6 * i + 1) = 1 ∧ σ (4 + 6 * i + 2) = c then 1 else 0) := rfl
        show ((o ||| 2 ^ σ (4 + 6 * i + 2)).testBit c = true ↔ 1 ≤ ms_sc σ m c (i + 1)) ∧ ((a ||| (o &&& 2 ^ σ (4 + 6 * i + 2))).testBit c = true ↔ 2 ≤ ms_sc σ m c (i + 1))
        rw [hs]
        rw [Nat.testBit_or, Nat.testBit_or, Nat.testBit_and, Nat.testBit_two_pow]
        by_cases hcc : σ (4 + 6 * i + 2) = c
        · have hx : (if σ (4 + 6 * i + 4) = m + 1 ∧ σ (4 + 6 * i + 1) = 1 ∧ σ (4 + 6 * i + 2) = c then 1 else 0) = 1 := if_pos ⟨p1, p2, hcc⟩
          rw [hx]
          simp only [hcc, decide_true, Bool.or_true, Bool.and_true, Bool.or_eq_true, q1, q2, true_iff]
          omega
        · have hx : (if σ (4 + 6 * i + 4) = m + 1 ∧ σ (4 + 6 * i + 1) = 1 ∧ σ (4 + 6 * i + 2) = c then 1 else 0) = 0 := if_neg (fun z => hcc z.2.2)
          rw [hx]
          simp only [hcc, decide_false, Bool.or_false, Bool.and_false, q1, q2]
          omega
      · simp (discharger := omega) only [f_X8_singleSockColours_L7, nI_add, mt_mul, nI_clamp, nI_leI, nI_ltI, nI_eq, mt_in_t, mt_b1, mt_b2, mt_b3, mt_b4, mt_l, mt_g, ↓reduceIte, Nat.reduceEqDiff, Nat.reduceLeDiff, ml_0, ml_1, ml_2, ml_3, ml_4, ml_5, ml_6, ml_7, ml_8, ml_9, ml_10, ml_11, ml_12, ml_13, ml_14, ml_16, ml_31, ml_32, ml_40, ml_42, ml_48, ml_50, ml_57, ml_59, ml_60, ml_63, ml_98, ml_100, ml_103, ml_104, ml_105, ml_106, ml_107, ml_108, ml_109, ml_110, ml_111, ml_112, ml_113, ml_114, ml_115, ml_120, ml_127, ml_176, ml_180, ml_200, ml_254, ml_255, ml_256, ml_300, ml_728, ml_832, ml_65536, cn, hi', e, e1, e2, p1, p2, mt_shl]
        rw [fa_or, fa_and, fa_or]
    · refine ⟨(o, a), ⟨h1, h2, fun c hc => ?_⟩, ?_⟩
      · have hs : ms_sc σ m c (i + 1) = ms_sc σ m c i + (if σ (4 + 6 * i + 4) = m + 1 ∧ σ (4 + 6 * i + 1) = 1 ∧ σ (4 + 6 * i + 2) = c then 1 else 0) := rfl
        show (o.testBit c = true ↔ 1 ≤ ms_sc σ m c (i + 1)) ∧ (a.testBit c = true ↔ 2 ≤ ms_sc σ m c (i + 1))
        have hx : (if σ (4 + 6 * i + 4) = m + 1 ∧ σ (4 + 6 * i + 1) = 1 ∧ σ (4 + 6 * i + 2) = c then 1 else 0) = 0 := if_neg (fun z => p ⟨z.1, z.2.1⟩)
        rw [hs, hx]
        exact h3 c hc
      · by_cases p1 : σ (4 + 6 * i + 4) = m + 1
        · have p2 : σ (4 + 6 * i + 1) = 0 := by
            have : ¬ σ (4 + 6 * i + 1) = 1 := fun z => p ⟨p1, z⟩
            omega
          simp (discharger := omega) only [f_X8_singleSockColours_L7, nI_add, mt_mul, nI_clamp, nI_leI, nI_ltI, nI_eq, mt_in_t, mt_b1, mt_b2, mt_b3, mt_b4, mt_l, mt_g, ↓reduceIte, Nat.reduceEqDiff, Nat.reduceLeDiff, ml_0, ml_1, ml_2, ml_3, ml_4, ml_5, ml_6, ml_7, ml_8, ml_9, ml_10, ml_11, ml_12, ml_13, ml_14, ml_16, ml_31, ml_32, ml_40, ml_42, ml_48, ml_50, ml_57, ml_59, ml_60, ml_63, ml_98, ml_100, ml_103, ml_104, ml_105, ml_106, ml_107, ml_108, ml_109, ml_110, ml_111, ml_112, ml_113, ml_114, ml_115, ml_120, ml_127, ml_176, ml_180, ml_200, ml_254, ml_255, ml_256, ml_300, ml_728, ml_832, ml_65536, cn, hi', e, e1, p1, p2]
        · simp (discharger := omega) only [f_X8_singleSockColours_L7, nI_add, mt_mul, nI_clamp, nI_leI, nI_ltI, nI_eq, mt_in_t, mt_b1, mt_b2, mt_b3, mt_b4, mt_l, mt_g, ↓reduceIte, Nat.reduceEqDiff, Nat.reduceLeDiff, ml_0, ml_1, ml_2, ml_3, ml_4, ml_5, ml_6, ml_7, ml_8, ml_9, ml_10, ml_11, ml_12, ml_13, ml_14, ml_16, ml_31, ml_32, ml_40, ml_42, ml_48, ml_50, ml_57, ml_59, ml_60, ml_63, ml_98, ml_100, ml_103, ml_104, ml_105, ml_106, ml_107, ml_108, ml_109, ml_110, ml_111, ml_112, ml_113, ml_114, ml_115, ml_120, ml_127, ml_176, ml_180, ml_200, ml_254, ml_255, ml_256, ml_300, ml_728, ml_832, ml_65536, cn, hi', e, p1]
  · show (Nat.testBit 0 c = true ↔ 1 ≤ 0) ∧ (Nat.testBit 0 c = true ↔ 2 ≤ 0)
    rw [Nat.zero_testBit]
    exact ⟨⟨fun z => (by cases z), fun z => by omega⟩, ⟨fun z => (by cases z), fun z => by omega⟩⟩
theorem ms_ln_sc {m g : Nat} (hg : g < σ 0) (hin : σ (4 + 6 * g + 4) = m + 1) (hs : σ (4 + 6 * g + 1) = 1) : ms_sc σ m (σ (4 + 6 * g + 2)) (σ 0) = 1 ↔ ms_ln σ m g (σ 0) := by
  unfold ms_sc ms_ln
  rw [mt_sm_one hg (by rw [if_pos ⟨hin, hs, rfl⟩])]
  constructor
  · intro h q hq z
    have := h q hq z.1
    rw [if_pos z.2] at this
    cases this
  · intro h q hq hne
    rw [if_neg (fun z => h q hq ⟨hne, z⟩)]
theorem mc_damageFromSets (hC : mt_C μ j σ) (hok : mt_k σ) {m h : Nat} (hm : m < 2) (hh : h < 1000) : f_X8_damageFromSets μ j (nI m) (nI h) = some (nI (ms_harm σ m h)) := by
  have h16 := hok.1
  have cn := hC.1
  have gl := ms_gr_lt hok m
  have gb := ms_gb_lt hok m
  obtain ⟨r, hr, er, hrb⟩ := mc_ssc hC hok hm
  have key : ∀ x5, x5 < 256 → (∀ c, c < 8 → (x5.testBit c = true ↔ ms_held σ m % 2 = 1 ∧ ms_sc σ m c (σ 0) = 1)) → f_X8_damageFromSets_L58 μ j 1000 (nI m) (nI (255 &&& (ms_wb h ^^^ 4294967295))) (nI (if 120 ≤ h then 2 ^ ms_gr σ m else 0)) (nI x5) (nI 0) (nI 0) = some (nI (ms_harm σ m h)) := by
    intro x5 hx5 hx
    refine mt_det (fun n (x : Int32) i => f_X8_damageFromSets_L58 μ j n (nI m) (nI (255 &&& (ms_wb h ^^^ 4294967295))) (nI (if 120 ≤ h then 2 ^ ms_gr σ m else 0)) (nI x5) x i) (fun i => nI (mt_sm (ms_ha σ m h) i)) (N := σ 0) ?_ ?_ (n := 1000) (by omega)
    · intro n
      simp (discharger := omega) only [f_X8_damageFromSets_L58, nI_add, mt_mul, nI_clamp, nI_leI, nI_ltI, nI_eq, mt_in_t, mt_b1, mt_b2, mt_b3, mt_b4, mt_l, mt_g, ↓reduceIte, Nat.reduceEqDiff, Nat.reduceLeDiff, ml_0, ml_1, ml_2, ml_3, ml_4, ml_5, ml_6, ml_7, ml_8, ml_9, ml_10, ml_11, ml_12, ml_13, ml_14, ml_16, ml_31, ml_32, ml_40, ml_42, ml_48, ml_50, ml_57, ml_59, ml_60, ml_63, ml_98, ml_100, ml_103, ml_104, ml_105, ml_106, ml_107, ml_108, ml_109, ml_110, ml_111, ml_112, ml_113, ml_114, ml_115, ml_120, ml_127, ml_176, ml_180, ml_200, ml_254, ml_255, ml_256, ml_300, ml_728, ml_832, ml_65536, cn, Nat.le_refl]
      rfl
    · intro n i hi
      have e := mc_isIn hC hok hi hm
      have e1 : μ j 2 i = nI (σ (4 + 6 * i + 1)) := mt_C_g hC (w := 1) (by decide) hi
      have e2 : μ j 3 i = nI (σ (4 + 6 * i + 2)) := mt_C_g hC (w := 2) (by decide) hi
      have e3 : μ j 4 i = nI (σ (4 + 6 * i + 3)) := mt_C_g hC (w := 3) (by decide) hi
      have b1 := (hok.2 i hi).2.1
      have b2 := (hok.2 i hi).2.2.1
      have b3 := (hok.2 i hi).2.2.2.1
      have hi' : ¬ σ 0 ≤ i := by omega
      by_cases p : σ (4 + 6 * i + 4) = m + 1
      · have hw := ms_wd_lt hok hi h
        have hsd := ms_sd_lt hok hi m h
        have kept : σ (4 + 6 * i + 3) &&& (255 &&& (ms_wb h ^^^ 4294967295)) = ms_wd σ h i := by
          rw [← Nat.and_assoc, mt_and255 _ b3]
          rfl
        have tb := mt_shr8 x5 hx5 _ b2
        have hlone : σ (4 + 6 * i + 1) = 1 → (x5.testBit (σ (4 + 6 * i + 2)) = true ↔ ms_held σ m % 2 = 1 ∧ ms_ln σ m i (σ 0)) := fun hs => by
          rw [hx _ b2, ms_ln_sc hi p hs]
        have fin : ∀ got, got < 256 → ms_pc got = (if ms_sd σ m h i = ms_wd σ h i then 0 else 1) → ms_wd σ h i ||| got = ms_sd σ m h i → f_X8_damageFromSets_J109 (f_X8_damageFromSets_L58 μ j n) μ j (nI m) (nI (255 &&& (ms_wb h ^^^ 4294967295))) (nI (if 120 ≤ h then 2 ^ ms_gr σ m else 0)) (nI x5) (nI (mt_sm (ms_ha σ m h) i)) (nI i) (nI (ms_wd σ h i)) (nI got) = f_X8_damageFromSets_L58 μ j n (nI m) (nI (255 &&& (ms_wb h ^^^ 4294967295))) (nI (if 120 ≤ h then 2 ^ ms_gr σ m else 0)) (nI x5) (nI (mt_sm (ms_ha σ m h) (i + 1))) (nI (i + 1)) := by
          intro got g1 g2 g3
          have ha : ms_ha σ m h i = ms_pc (ms_wd σ h i) + 3 * ms_pc got + (if ms_lo σ m h i then 10 else 0) := by
            unfold ms_ha
            rw [if_pos p, g2]
            by_cases z : ms_sd σ m h i = ms_wd σ h i
            · rw [if_pos z, if_pos z]
            · rw [if_neg z, if_neg z]
          have hs : mt_sm (ms_ha σ m h) (i + 1) = mt_sm (ms_ha σ m h) i + (ms_pc (ms_wd σ h i) + 3 * ms_pc got) + (if ms_lo σ m h i then 10 else 0) := by
            show mt_sm (ms_ha σ m h) i + ms_ha σ m h i = _
            rw [ha]
            omega
          rw [hs]
          by_cases z1 : σ (4 + 6 * i + 1) = 1
          · have hl := hlone z1
            by_cases z2 : x5.testBit (σ (4 + 6 * i + 2)) = true
            · rw [if_pos z2] at tb
              by_cases z3 : ms_sd σ m h i = 0
              · have lo : ms_lo σ m h i := ⟨z1, (hl.mp z2).1, z3, (hl.mp z2).2⟩
                rw [if_pos lo]
                simp (discharger := omega) only [f_X8_damageFromSets_J109, f_X8_damageFromSets_J142, f_X8_damageFromSets_J165, nI_add, mt_mul, nI_clamp, nI_leI, nI_ltI, nI_eq, mt_in_t, mt_b1, mt_b2, mt_b3, mt_b4, mt_l, mt_g, ↓reduceIte, Nat.reduceEqDiff, Nat.reduceLeDiff, ml_0, ml_1, ml_2, ml_3, ml_4, ml_5, ml_6, ml_7, ml_8, ml_9, ml_10, ml_11, ml_12, ml_13, ml_14, ml_16, ml_31, ml_32, ml_40, ml_42, ml_48, ml_50, ml_57, ml_59, ml_60, ml_63, ml_98, ml_100, ml_103, ml_104, ml_105, ml_106, ml_107, ml_108, ml_109, ml_110, ml_111, ml_112, ml_113, ml_114, ml_115, ml_120, ml_127, ml_176, ml_180, ml_200, ml_254, ml_255, ml_256, ml_300, ml_728, ml_832, ml_65536, mt_bc, fa_or, g3, z3, e1, e2, z1, tb]
              · have lo : ¬ ms_lo σ m h i := fun z => z3 z.2.2.1
                rw [if_neg lo]
                simp (discharger := omega) only [f_X8_damageFromSets_J109, f_X8_damageFromSets_J142, f_X8_damageFromSets_J165, nI_add, mt_mul, nI_clamp, nI_leI, nI_ltI, nI_eq, mt_in_t, mt_b1, mt_b2, mt_b3, mt_b4, mt_l, mt_g, ↓reduceIte, Nat.reduceEqDiff, Nat.reduceLeDiff, ml_0, ml_1, ml_2, ml_3, ml_4, ml_5, ml_6, ml_7, ml_8, ml_9, ml_10, ml_11, ml_12, ml_13, ml_14, ml_16, ml_31, ml_32, ml_40, ml_42, ml_48, ml_50, ml_57, ml_59, ml_60, ml_63, ml_98, ml_100, ml_103, ml_104, ml_105, ml_106, ml_107, ml_108, ml_109, ml_110, ml_111, ml_112, ml_113, ml_114, ml_115, ml_120, ml_127, ml_176, ml_180, ml_200, ml_254, ml_255, ml_256, ml_300, ml_728, ml_832, ml_65536, mt_bc, fa_or, g3, z3, e1, e2, z1, tb]
            · rw [if_neg z2] at tb
              have lo : ¬ ms_lo σ m h i := fun z => z2 (hl.mpr ⟨z.2.1, z.2.2.2⟩)
              rw [if_neg lo]
              by_cases z3 : ms_sd σ m h i = 0 <;> simp (discharger := omega) only [f_X8_damageFromSets_J109, f_X8_damageFromSets_J142, f_X8_damageFromSets_J165, nI_add, mt_mul, nI_clamp, nI_leI, nI_ltI, nI_eq, mt_in_t, mt_b1, mt_b2, mt_b3, mt_b4, mt_l, mt_g, ↓reduceIte, Nat.reduceEqDiff, Nat.reduceLeDiff, ml_0, ml_1, ml_2, ml_3, ml_4, ml_5, ml_6, ml_7, ml_8, ml_9, ml_10, ml_11, ml_12, ml_13, ml_14, ml_16, ml_31, ml_32, ml_40, ml_42, ml_48, ml_50, ml_57, ml_59, ml_60, ml_63, ml_98, ml_100, ml_103, ml_104, ml_105, ml_106, ml_107, ml_108, ml_109, ml_110, ml_111, ml_112, ml_113, ml_114, ml_115, ml_120, ml_127, ml_176, ml_180, ml_200, ml_254, ml_255, ml_256, ml_300, ml_728, ml_832, ml_65536, mt_bc, fa_or, g3, z3, e1, e2, z1, tb]
          · have z1' : σ (4 + 6 * i + 1) = 0 := by omega
            have lo : ¬ ms_lo σ m h i := fun z => z1 z.1
            rw [if_neg lo]
            by_cases z2 : x5.testBit (σ (4 + 6 * i + 2)) = true
            · rw [if_pos z2] at tb
              by_cases z3 : ms_sd σ m h i = 0 <;> simp (discharger := omega) only [f_X8_damageFromSets_J109, f_X8_damageFromSets_J142, f_X8_damageFromSets_J165, nI_add, mt_mul, nI_clamp, nI_leI, nI_ltI, nI_eq, mt_in_t, mt_b1, mt_b2, mt_b3, mt_b4, mt_l, mt_g, ↓reduceIte, Nat.reduceEqDiff, Nat.reduceLeDiff, ml_0, ml_1, ml_2, ml_3, ml_4, ml_5, ml_6, ml_7, ml_8, ml_9, ml_10, ml_11, ml_12, ml_13, ml_14, ml_16, ml_31, ml_32, ml_40, ml_42, ml_48, ml_50, ml_57, ml_59, ml_60, ml_63, ml_98, ml_100, ml_103, ml_104, ml_105, ml_106, ml_107, ml_108, ml_109, ml_110, ml_111, ml_112, ml_113, ml_114, ml_115, ml_120, ml_127, ml_176, ml_180, ml_200, ml_254, ml_255, ml_256, ml_300, ml_728, ml_832, ml_65536, mt_bc, fa_or, g3, z3, e1, e2, z1', tb]
            · rw [if_neg z2] at tb
              by_cases z3 : ms_sd σ m h i = 0 <;> simp (discharger := omega) only [f_X8_damageFromSets_J109, f_X8_damageFromSets_J142, f_X8_damageFromSets_J165, nI_add, mt_mul, nI_clamp, nI_leI, nI_ltI, nI_eq, mt_in_t, mt_b1, mt_b2, mt_b3, mt_b4, mt_l, mt_g, ↓reduceIte, Nat.reduceEqDiff, Nat.reduceLeDiff, ml_0, ml_1, ml_2, ml_3, ml_4, ml_5, ml_6, ml_7, ml_8, ml_9, ml_10, ml_11, ml_12, ml_13, ml_14, ml_16, ml_31, ml_32, ml_40, ml_42, ml_48, ml_50, ml_57, ml_59, ml_60, ml_63, ml_98, ml_100, ml_103, ml_104, ml_105, ml_106, ml_107, ml_108, ml_109, ml_110, ml_111, ml_112, ml_113, ml_114, ml_115, ml_120, ml_127, ml_176, ml_180, ml_200, ml_254, ml_255, ml_256, ml_300, ml_728, ml_832, ml_65536, mt_bc, fa_or, g3, z3, e1, e2, z1', tb]
        by_cases p2 : σ (4 + 6 * i + 2) = 0
        · by_cases p3 : 120 ≤ h
          · have hse : ms_sd σ m h i = ms_wd σ h i ||| 2 ^ ms_gr σ m := by
              unfold ms_sd
              rw [if_pos ⟨p3, p2⟩]
            have g0 := fin (2 ^ ms_gr σ m &&& (ms_wd σ h i ^^^ 4294967295)) (Nat.lt_of_le_of_lt Nat.and_le_left gb) (by
              rw [mt_got1 _ gl _ hw, hse]) (by
              rw [mt_got2 _ gl _ hw, hse])
            rw [if_pos p3] at g0 ⊢
            simp (discharger := omega) only [f_X8_damageFromSets_L58, nI_add, mt_mul, nI_clamp, nI_leI, nI_ltI, nI_eq, mt_in_t, mt_b1, mt_b2, mt_b3, mt_b4, mt_l, mt_g, ↓reduceIte, Nat.reduceEqDiff, Nat.reduceLeDiff, ml_0, ml_1, ml_2, ml_3, ml_4, ml_5, ml_6, ml_7, ml_8, ml_9, ml_10, ml_11, ml_12, ml_13, ml_14, ml_16, ml_31, ml_32, ml_40, ml_42, ml_48, ml_50, ml_57, ml_59, ml_60, ml_63, ml_98, ml_100, ml_103, ml_104, ml_105, ml_106, ml_107, ml_108, ml_109, ml_110, ml_111, ml_112, ml_113, ml_114, ml_115, ml_120, ml_127, ml_176, ml_180, ml_200, ml_254, ml_255, ml_256, ml_300, ml_728, ml_832, ml_65536, cn, hi', e, p, e2, e3, p2, fa_and, kept, ml_m1, mt_xor]
            exact g0
          · have hsw : ms_sd σ m h i = ms_wd σ h i := by
              unfold ms_sd
              rw [if_neg (fun z => p3 z.1), Nat.or_zero]
            have g0 := fin 0 (by decide) (by rw [if_pos hsw]; decide) (by rw [Nat.or_zero, hsw])
            rw [if_neg p3] at g0 ⊢
            simp (discharger := omega) only [f_X8_damageFromSets_L58, nI_add, mt_mul, nI_clamp, nI_leI, nI_ltI, nI_eq, mt_in_t, mt_b1, mt_b2, mt_b3, mt_b4, mt_l, mt_g, ↓reduceIte, Nat.reduceEqDiff, Nat.reduceLeDiff, ml_0, ml_1, ml_2, ml_3, ml_4, ml_5, ml_6, ml_7, ml_8, ml_9, ml_10, ml_11, ml_12, ml_13, ml_14, ml_16, ml_31, ml_32, ml_40, ml_42, ml_48, ml_50, ml_57, ml_59, ml_60, ml_63, ml_98, ml_100, ml_103, ml_104, ml_105, ml_106, ml_107, ml_108, ml_109, ml_110, ml_111, ml_112, ml_113, ml_114, ml_115, ml_120, ml_127, ml_176, ml_180, ml_200, ml_254, ml_255, ml_256, ml_300, ml_728, ml_832, ml_65536, cn, hi', e, p, e2, e3, p2, fa_and, kept, ml_m1, mt_xor, Nat.zero_and]
            exact g0
        · have hsw : ms_sd σ m h i = ms_wd σ h i := by
            unfold ms_sd
            rw [if_neg (fun z => p2 z.2), Nat.or_zero]
          have g0 := fin 0 (by decide) (by rw [if_pos hsw]; decide) (by rw [Nat.or_zero, hsw])
          generalize (if 120 ≤ h then 2 ^ ms_gr σ m else 0) = run at g0 ⊢
          simp (discharger := omega) only [f_X8_damageFromSets_L58, nI_add, mt_mul, nI_clamp, nI_leI, nI_ltI, nI_eq, mt_in_t, mt_b1, mt_b2, mt_b3, mt_b4, mt_l, mt_g, ↓reduceIte, Nat.reduceEqDiff, Nat.reduceLeDiff, ml_0, ml_1, ml_2, ml_3, ml_4, ml_5, ml_6, ml_7, ml_8, ml_9, ml_10, ml_11, ml_12, ml_13, ml_14, ml_16, ml_31, ml_32, ml_40, ml_42, ml_48, ml_50, ml_57, ml_59, ml_60, ml_63, ml_98, ml_100, ml_103, ml_104, ml_105, ml_106, ml_107, ml_108, ml_109, ml_110, ml_111, ml_112, ml_113, ml_114, ml_115, ml_120, ml_127, ml_176, ml_180, ml_200, ml_254, ml_255, ml_256, ml_300, ml_728, ml_832, ml_65536, cn, hi', e, p, e2, e3, p2, fa_and, kept]
          exact g0
      · have ha : ms_ha σ m h i = 0 := if_neg p
        generalize (if 120 ≤ h then 2 ^ ms_gr σ m else 0) = run
        simp (discharger := omega) only [f_X8_damageFromSets_L58, nI_add, mt_mul, nI_clamp, nI_leI, nI_ltI, nI_eq, mt_in_t, mt_b1, mt_b2, mt_b3, mt_b4, mt_l, mt_g, ↓reduceIte, Nat.reduceEqDiff, Nat.reduceLeDiff, ml_0, ml_1, ml_2, ml_3, ml_4, ml_5, ml_6, ml_7, ml_8, ml_9, ml_10, ml_11, ml_12, ml_13, ml_14, ml_16, ml_31, ml_32, ml_40, ml_42, ml_48, ml_50, ml_57, ml_59, ml_60, ml_63, ml_98, ml_100, ml_103, ml_104, ml_105, ml_106, ml_107, ml_108, ml_109, ml_110, ml_111, ml_112, ml_113, ml_114, ml_115, ml_120, ml_127, ml_176, ml_180, ml_200, ml_254, ml_255, ml_256, ml_300, ml_728, ml_832, ml_65536, cn, hi', e, p, mt_sm, ha, Nat.add_zero]
  have ew := mc_removedAt (μ := μ) hh
  have ec := mc_countIn hC hok hm
  have eg := mc_greatest hC hok hm
  have hb := ms_held_lt hok m
  have J28 : f_X8_damageFromSets_J28 μ j (nI m) (nI (255 &&& (ms_wb h ^^^ 4294967295))) (nI (if 120 ≤ h then 2 ^ ms_gr σ m else 0)) = some (nI (ms_harm σ m h)) := by
    by_cases p : ms_held σ m % 2 = 1
    · have k := key r hr (fun c hc => by rw [hrb c hc]; exact ⟨fun z => ⟨p, z⟩, fun z => z.2⟩)
      generalize (if 120 ≤ h then 2 ^ ms_gr σ m else 0) = run at k ⊢
      simp (discharger := omega) only [f_X8_damageFromSets_J28, nI_add, mt_mul, nI_clamp, nI_leI, nI_ltI, nI_eq, mt_in_t, mt_b1, mt_b2, mt_b3, mt_b4, mt_l, mt_g, ↓reduceIte, Nat.reduceEqDiff, Nat.reduceLeDiff, ml_0, ml_1, ml_2, ml_3, ml_4, ml_5, ml_6, ml_7, ml_8, ml_9, ml_10, ml_11, ml_12, ml_13, ml_14, ml_16, ml_31, ml_32, ml_40, ml_42, ml_48, ml_50, ml_57, ml_59, ml_60, ml_63, ml_98, ml_100, ml_103, ml_104, ml_105, ml_106, ml_107, ml_108, ml_109, ml_110, ml_111, ml_112, ml_113, ml_114, ml_115, ml_120, ml_127, ml_176, ml_180, ml_200, ml_254, ml_255, ml_256, ml_300, ml_728, ml_832, ml_65536, ec, mt_rem2, p, er]
      exact k
    · have k := key 0 (by decide) (fun c hc => by rw [Nat.zero_testBit]; exact ⟨fun z => (by cases z), fun z => absurd z.1 p⟩)
      generalize (if 120 ≤ h then 2 ^ ms_gr σ m else 0) = run at k ⊢
      simp (discharger := omega) only [f_X8_damageFromSets_J28, nI_add, mt_mul, nI_clamp, nI_leI, nI_ltI, nI_eq, mt_in_t, mt_b1, mt_b2, mt_b3, mt_b4, mt_l, mt_g, ↓reduceIte, Nat.reduceEqDiff, Nat.reduceLeDiff, ml_0, ml_1, ml_2, ml_3, ml_4, ml_5, ml_6, ml_7, ml_8, ml_9, ml_10, ml_11, ml_12, ml_13, ml_14, ml_16, ml_31, ml_32, ml_40, ml_42, ml_48, ml_50, ml_57, ml_59, ml_60, ml_63, ml_98, ml_100, ml_103, ml_104, ml_105, ml_106, ml_107, ml_108, ml_109, ml_110, ml_111, ml_112, ml_113, ml_114, ml_115, ml_120, ml_127, ml_176, ml_180, ml_200, ml_254, ml_255, ml_256, ml_300, ml_728, ml_832, ml_65536, ec, mt_rem2, p]
      exact k
  by_cases p : 120 ≤ h
  · have p2 : ¬ h < 120 := by omega
    rw [if_pos p] at J28
    simp (discharger := omega) only [f_X8_damageFromSets, nI_add, mt_mul, nI_clamp, nI_leI, nI_ltI, nI_eq, mt_in_t, mt_b1, mt_b2, mt_b3, mt_b4, mt_l, mt_g, ↓reduceIte, Nat.reduceEqDiff, Nat.reduceLeDiff, ml_0, ml_1, ml_2, ml_3, ml_4, ml_5, ml_6, ml_7, ml_8, ml_9, ml_10, ml_11, ml_12, ml_13, ml_14, ml_16, ml_31, ml_32, ml_40, ml_42, ml_48, ml_50, ml_57, ml_59, ml_60, ml_63, ml_98, ml_100, ml_103, ml_104, ml_105, ml_106, ml_107, ml_108, ml_109, ml_110, ml_111, ml_112, ml_113, ml_114, ml_115, ml_120, ml_127, ml_176, ml_180, ml_200, ml_254, ml_255, ml_256, ml_300, ml_728, ml_832, ml_65536, ew, eg, p2, ml_m1, mt_xor, mt_shl]
    rw [fa_and]
    exact J28
  · have p2 : h < 120 := by omega
    rw [if_neg p] at J28
    simp (discharger := omega) only [f_X8_damageFromSets, nI_add, mt_mul, nI_clamp, nI_leI, nI_ltI, nI_eq, mt_in_t, mt_b1, mt_b2, mt_b3, mt_b4, mt_l, mt_g, ↓reduceIte, Nat.reduceEqDiff, Nat.reduceLeDiff, ml_0, ml_1, ml_2, ml_3, ml_4, ml_5, ml_6, ml_7, ml_8, ml_9, ml_10, ml_11, ml_12, ml_13, ml_14, ml_16, ml_31, ml_32, ml_40, ml_42, ml_48, ml_50, ml_57, ml_59, ml_60, ml_63, ml_98, ml_100, ml_103, ml_104, ml_105, ml_106, ml_107, ml_108, ml_109, ml_110, ml_111, ml_112, ml_113, ml_114, ml_115, ml_120, ml_127, ml_176, ml_180, ml_200, ml_254, ml_255, ml_256, ml_300, ml_728, ml_832, ml_65536, ew, p2, ml_m1, mt_xor, fa_and]
    exact J28
end MZ
/-! the best temperature: 9 candidates on the one side, 141 on the other -/
def ms_bc (H : Nat → Nat) : Nat → Nat
  | 0 => 40
  | i + 1 => if H (50 + 10 * i) < H (ms_bc H i) then 50 + 10 * i else ms_bc H i
def ms_br (H : Nat → Nat) : Nat → Nat
  | 0 => 40
  | i + 1 => if H (41 + i) < H (ms_br H i) then 41 + i else ms_br H i
theorem ms_br_k {H : Nat → Nat} {a : Nat} : ∀ t, (∀ i, a ≤ i → i < a + t → H (ms_br H a) ≤ H (41 + i)) → ms_br H (a + t) = ms_br H a
  | 0, _ => rfl
  | t + 1, h => by
    have ih := ms_br_k (H := H) (a := a) t (fun i h1 h2 => h i h1 (by omega))
    show (if H (41 + (a + t)) < H (ms_br H (a + t)) then 41 + (a + t) else ms_br H (a + t)) = _
    rw [ih, if_neg (by have := h (a + t) (by omega) (by omega); omega)]
theorem ms_br_s {H : Nat → Nat} {a : Nat} : H (ms_br H (a + 1)) ≤ H (41 + a) := by
  show H (if H (41 + a) < H (ms_br H a) then 41 + a else ms_br H a) ≤ H (41 + a)
  split <;> omega
theorem ms_best {H : Nat → Nat} (h0 : ∀ h, 40 ≤ h → h < 50 → H h = H 40) (hk : ∀ k, k < 7 → ∀ h, 50 + 10 * k ≤ h → h < 60 + 10 * k → H h = H (50 + 10 * k)) (h7 : ∀ h, 120 ≤ h → h ≤ 180 → H h = H 120) : ms_br H 140 = ms_bc H 8 := by
  have e0 : ms_br H (0 + 9) = 40 := by
    rw [ms_br_k 9 (fun i _ h2 => ?_)]
    · rfl
    · show H 40 ≤ H (41 + i)
      rw [h0 (41 + i) (by omega) (by omega)]
      exact Nat.le_refl _
  have ek : ∀ k, k ≤ 7 → ms_br H (9 + 10 * k) = ms_bc H k := by
    intro k
    induction k with
    | zero => intro _; exact e0
    | succ k ih =>
      intro hk7
      have i1 := ih (by omega)
      have s1 : ms_br H (9 + 10 * k + 1) = ms_bc H (k + 1) := by
        show (if H (41 + (9 + 10 * k)) < H (ms_br H (9 + 10 * k)) then 41 + (9 + 10 * k) else ms_br H (9 + 10 * k)) = (if H (50 + 10 * k) < H (ms_bc H k) then 50 + 10 * k else ms_bc H k)
        rw [i1, show 41 + (9 + 10 * k) = 50 + 10 * k by omega]
      have s2 := ms_br_s (H := H) (a := 9 + 10 * k)
      rw [show 41 + (9 + 10 * k) = 50 + 10 * k by omega] at s2
      rw [show 9 + 10 * (k + 1) = 9 + 10 * k + 1 + 9 by omega, ms_br_k 9 (fun i q1 q2 => ?_), s1]
      rw [hk k (by omega) (41 + i) (by omega) (by omega)]
      exact s2
  have i7 := ek 7 (by omega)
  have s1 : ms_br H (79 + 1) = ms_bc H 8 := by
    show (if H (41 + 79) < H (ms_br H 79) then 41 + 79 else ms_br H 79) = (if H (50 + 10 * 7) < H (ms_bc H 7) then 50 + 10 * 7 else ms_bc H 7)
    have i7' : ms_br H 79 = ms_bc H 7 := i7
    rw [i7']
  have s2 := ms_br_s (H := H) (a := 79)
  rw [show 140 = 79 + 1 + 60 from rfl, ms_br_k 60 (fun i q1 q2 => ?_), s1]
  rw [h7 (41 + i) (by omega) (by omega)]
  exact s2
theorem ms_wb_c : ∀ h, h < 181 → 40 ≤ h → ms_wb h = ms_wb (if h < 50 then 40 else if h < 120 then 50 + 10 * ((h - 50) / 10) else 120) := by decide +kernel
theorem ms_harm_c {σ : Nat → Nat} {m h h' : Nat} (h1 : ms_wb h = ms_wb h') (h2 : 120 ≤ h ↔ 120 ≤ h') : ms_harm σ m h = ms_harm σ m h' := by
  have hw : ∀ g, ms_wd σ h g = ms_wd σ h' g := fun g => by unfold ms_wd; rw [h1]
  have hs : ∀ g, ms_sd σ m h g = ms_sd σ m h' g := fun g => by
    unfold ms_sd
    rw [hw]
    by_cases q : 120 ≤ h
    · have q' := h2.mp q
      simp only [q, q', true_and]
    · have q' : ¬ 120 ≤ h' := fun z => q (h2.mpr z)
      simp only [q, q', false_and]
  unfold ms_harm
  refine mt_sm_c (fun g _ => ?_)
  unfold ms_ha ms_lo
  rw [hw, hs]
theorem ms_best_h {σ : Nat → Nat} {m : Nat} : ms_br (ms_harm σ m) 140 = ms_bc (ms_harm σ m) 8 := by
  refine ms_best (fun h q1 q2 => ?_) (fun k hk h q1 q2 => ?_) (fun h q1 q2 => ?_)
  · refine ms_harm_c ?_ (by omega)
    rw [ms_wb_c h (by omega) q1, if_pos q2]
  · refine ms_harm_c ?_ (by omega)
    rw [ms_wb_c h (by omega) (by omega), if_neg (by omega), if_pos (by omega), show (h - 50) / 10 = k by omega]
  · refine ms_harm_c ?_ (by omega)
    rw [ms_wb_c h (by omega) (by omega), if_neg (by omega), if_neg (by omega)]
theorem ms_bc_b {H : Nat → Nat} : ∀ i, i ≤ 8 → 40 ≤ ms_bc H i ∧ ms_bc H i ≤ 180
  | 0, _ => (by decide : 40 ≤ 40 ∧ 40 ≤ 180)
  | i + 1, h => by
    have ih := ms_bc_b (H := H) i (by omega)
    show 40 ≤ (if H (50 + 10 * i) < H (ms_bc H i) then 50 + 10 * i else ms_bc H i) ∧ (if H (50 + 10 * i) < H (ms_bc H i) then 50 + 10 * i else ms_bc H i) ≤ 180
    split <;> omega
theorem ms_br_b {H : Nat → Nat} : ∀ i, i ≤ 140 → 40 ≤ ms_br H i ∧ ms_br H i ≤ 180
  | 0, _ => (by decide : 40 ≤ 40 ∧ 40 ≤ 180)
  | i + 1, h => by
    have ih := ms_br_b (H := H) i (by omega)
    show 40 ≤ (if H (41 + i) < H (ms_br H i) then 41 + i else ms_br H i) ∧ (if H (41 + i) < H (ms_br H i) then 41 + i else ms_br H i) ≤ 180
    split <;> omega
theorem ms_harm_lt {σ : Nat → Nat} (hok : mt_k σ) (m h : Nat) : ms_harm σ m h ≤ 16 * 21 := by
  have h1 := mt_sm_le (f := ms_ha σ m h) (c := 21) (n := σ 0) (fun g hg => by
    have := ms_pc_lt _ (ms_wd_lt hok hg h)
    unfold ms_ha
    split
    · split <;> split <;> omega
    · omega)
  have h2 := hok.1
  have h3 : σ 0 * 21 ≤ 16 * 21 := Nat.mul_le_mul_right _ h2
  unfold ms_harm
  omega
section MV
variable {μ : fw_M} {j : Nat} {σ : Nat → Nat}
theorem mc_least (hC : mt_C μ j σ) (hok : mt_k σ) {m : Nat} (hm : m < 2) : f_X8_leastHarmfulHalves μ j (nI m) = some (nI (ms_bc (ms_harm σ m) 8)) := by
  have e0 := mc_damageFromSets hC hok hm (h := 40) (by decide)
  have key : f_X8_leastHarmfulHalves_L14 μ j 1000 (nI m) (nI 40) (nI (ms_harm σ m 40)) (nI 50) = some (nI (ms_bc (ms_harm σ m) 8)) := by
    refine mt_det (fun n (x : Int32 × Int32) i => f_X8_leastHarmfulHalves_L14 μ j n (nI m) x.1 x.2 (nI 50 + nI 10 * i)) (fun i => (nI (ms_bc (ms_harm σ m) i), nI (ms_harm σ m (ms_bc (ms_harm σ m) i)))) (N := 8) ?_ ?_ (n := 1000) (by omega)
    · intro n
      have h1 : 120 < 50 + 10 * 8 := by decide
      simp (discharger := omega) only [f_X8_leastHarmfulHalves_L14, nI_add, mt_mul, nI_clamp, nI_leI, nI_ltI, nI_eq, mt_in_t, mt_b1, mt_b2, mt_b3, mt_b4, mt_l, mt_g, ↓reduceIte, Nat.reduceEqDiff, Nat.reduceLeDiff, ml_0, ml_1, ml_2, ml_3, ml_4, ml_5, ml_6, ml_7, ml_8, ml_9, ml_10, ml_11, ml_12, ml_13, ml_14, ml_16, ml_31, ml_32, ml_40, ml_42, ml_48, ml_50, ml_57, ml_59, ml_60, ml_63, ml_98, ml_100, ml_103, ml_104, ml_105, ml_106, ml_107, ml_108, ml_109, ml_110, ml_111, ml_112, ml_113, ml_114, ml_115, ml_120, ml_127, ml_176, ml_180, ml_200, ml_254, ml_255, ml_256, ml_300, ml_728, ml_832, ml_65536, h1]
    · intro n i hi
      have e := mc_damageFromSets hC hok hm (h := 50 + 10 * i) (by omega)
      have h1 : ¬ 120 < 50 + 10 * i := by omega
      have b1 := ms_harm_lt hok m (50 + 10 * i)
      have b2 := ms_harm_lt hok m (ms_bc (ms_harm σ m) i)
      have h2 : 50 + 10 * (i + 1) = 50 + 10 * i + 10 := by omega
      by_cases q : ms_harm σ m (50 + 10 * i) < ms_harm σ m (ms_bc (ms_harm σ m) i)
      · have q2 : ¬ ms_harm σ m (ms_bc (ms_harm σ m) i) ≤ ms_harm σ m (50 + 10 * i) := by omega
        have q3 : ms_bc (ms_harm σ m) (i + 1) = 50 + 10 * i := if_pos q
        simp (discharger := omega) only [f_X8_leastHarmfulHalves_L14, nI_add, mt_mul, nI_clamp, nI_leI, nI_ltI, nI_eq, mt_in_t, mt_b1, mt_b2, mt_b3, mt_b4, mt_l, mt_g, ↓reduceIte, Nat.reduceEqDiff, Nat.reduceLeDiff, ml_0, ml_1, ml_2, ml_3, ml_4, ml_5, ml_6, ml_7, ml_8, ml_9, ml_10, ml_11, ml_12, ml_13, ml_14, ml_16, ml_31, ml_32, ml_40, ml_42, ml_48, ml_50, ml_57, ml_59, ml_60, ml_63, ml_98, ml_100, ml_103, ml_104, ml_105, ml_106, ml_107, ml_108, ml_109, ml_110, ml_111, ml_112, ml_113, ml_114, ml_115, ml_120, ml_127, ml_176, ml_180, ml_200, ml_254, ml_255, ml_256, ml_300, ml_728, ml_832, ml_65536, h1, h2, e, q2, q3]
      · have q2 : ms_harm σ m (ms_bc (ms_harm σ m) i) ≤ ms_harm σ m (50 + 10 * i) := by omega
        have q3 : ms_bc (ms_harm σ m) (i + 1) = ms_bc (ms_harm σ m) i := if_neg q
        simp (discharger := omega) only [f_X8_leastHarmfulHalves_L14, nI_add, mt_mul, nI_clamp, nI_leI, nI_ltI, nI_eq, mt_in_t, mt_b1, mt_b2, mt_b3, mt_b4, mt_l, mt_g, ↓reduceIte, Nat.reduceEqDiff, Nat.reduceLeDiff, ml_0, ml_1, ml_2, ml_3, ml_4, ml_5, ml_6, ml_7, ml_8, ml_9, ml_10, ml_11, ml_12, ml_13, ml_14, ml_16, ml_31, ml_32, ml_40, ml_42, ml_48, ml_50, ml_57, ml_59, ml_60, ml_63, ml_98, ml_100, ml_103, ml_104, ml_105, ml_106, ml_107, ml_108, ml_109, ml_110, ml_111, ml_112, ml_113, ml_114, ml_115, ml_120, ml_127, ml_176, ml_180, ml_200, ml_254, ml_255, ml_256, ml_300, ml_728, ml_832, ml_65536, h1, h2, e, q2, q3]
  simp (discharger := omega) only [f_X8_leastHarmfulHalves, nI_add, mt_mul, nI_clamp, nI_leI, nI_ltI, nI_eq, mt_in_t, mt_b1, mt_b2, mt_b3, mt_b4, mt_l, mt_g, ↓reduceIte, Nat.reduceEqDiff, Nat.reduceLeDiff, ml_0, ml_1, ml_2, ml_3, ml_4, ml_5, ml_6, ml_7, ml_8, ml_9, ml_10, ml_11, ml_12, ml_13, ml_14, ml_16, ml_31, ml_32, ml_40, ml_42, ml_48, ml_50, ml_57, ml_59, ml_60, ml_63, ml_98, ml_100, ml_103, ml_104, ml_105, ml_106, ml_107, ml_108, ml_109, ml_110, ml_111, ml_112, ml_113, ml_114, ml_115, ml_120, ml_127, ml_176, ml_180, ml_200, ml_254, ml_255, ml_256, ml_300, ml_728, ml_832, ml_65536, e0]
  exact key
theorem mr_best (hM : mt_M μ 19 0 σ) (hok : mt_k σ) {m : Nat} (hm : m < 2) : f_X10_bestTemperature_L43 1000 μ (nI m) (nI 40) (nI 41) = some (μ, nI (ms_bc (ms_harm σ m) 8)) := by
  rw [← ms_best_h]
  refine mt_det (fun n (x : Int32) i => f_X10_bestTemperature_L43 n μ (nI m) x (nI 41 + i)) (fun i => nI (ms_br (ms_harm σ m) i)) (N := 140) ?_ ?_ (n := 1000) (by omega)
  · intro n
    have h1 : 180 < 41 + 140 := by decide
    simp (discharger := omega) only [f_X10_bestTemperature_L43, nI_add, mt_mul, nI_clamp, nI_leI, nI_ltI, nI_eq, mt_in_t, mt_b1, mt_b2, mt_b3, mt_b4, mt_l, mt_g, ↓reduceIte, Nat.reduceEqDiff, Nat.reduceLeDiff, ml_0, ml_1, ml_2, ml_3, ml_4, ml_5, ml_6, ml_7, ml_8, ml_9, ml_10, ml_11, ml_12, ml_13, ml_14, ml_16, ml_31, ml_32, ml_40, ml_42, ml_48, ml_50, ml_57, ml_59, ml_60, ml_63, ml_98, ml_100, ml_103, ml_104, ml_105, ml_106, ml_107, ml_108, ml_109, ml_110, ml_111, ml_112, ml_113, ml_114, ml_115, ml_120, ml_127, ml_176, ml_180, ml_200, ml_254, ml_255, ml_256, ml_300, ml_728, ml_832, ml_65536, h1]
  · intro n i hi
    have bb := ms_br_b (H := ms_harm σ m) i (by omega)
    have e := mr_harm hM hok hm (h := 41 + i) (by omega)
    have e' := mr_harm hM hok hm (h := ms_br (ms_harm σ m) i) (by omega)
    have h1 : ¬ 180 < 41 + i := by omega
    have b1 := ms_harm_lt hok m (41 + i)
    have b2 := ms_harm_lt hok m (ms_br (ms_harm σ m) i)
    have h2 : 41 + (i + 1) = 41 + i + 1 := by omega
    by_cases q : ms_harm σ m (41 + i) < ms_harm σ m (ms_br (ms_harm σ m) i)
    · have q2 : ¬ ms_harm σ m (ms_br (ms_harm σ m) i) ≤ ms_harm σ m (41 + i) := by omega
      have q3 : ms_br (ms_harm σ m) (i + 1) = 41 + i := if_pos q
      simp (discharger := omega) only [f_X10_bestTemperature_L43, nI_add, mt_mul, nI_clamp, nI_leI, nI_ltI, nI_eq, mt_in_t, mt_b1, mt_b2, mt_b3, mt_b4, mt_l, mt_g, ↓reduceIte, Nat.reduceEqDiff, Nat.reduceLeDiff, ml_0, ml_1, ml_2, ml_3, ml_4, ml_5, ml_6, ml_7, ml_8, ml_9, ml_10, ml_11, ml_12, ml_13, ml_14, ml_16, ml_31, ml_32, ml_40, ml_42, ml_48, ml_50, ml_57, ml_59, ml_60, ml_63, ml_98, ml_100, ml_103, ml_104, ml_105, ml_106, ml_107, ml_108, ml_109, ml_110, ml_111, ml_112, ml_113, ml_114, ml_115, ml_120, ml_127, ml_176, ml_180, ml_200, ml_254, ml_255, ml_256, ml_300, ml_728, ml_832, ml_65536, h1, h2, e, e', q2, q3]
    · have q2 : ms_harm σ m (ms_br (ms_harm σ m) i) ≤ ms_harm σ m (41 + i) := by omega
      have q3 : ms_br (ms_harm σ m) (i + 1) = ms_br (ms_harm σ m) i := if_neg q
      simp (discharger := omega) only [f_X10_bestTemperature_L43, nI_add, mt_mul, nI_clamp, nI_leI, nI_ltI, nI_eq, mt_in_t, mt_b1, mt_b2, mt_b3, mt_b4, mt_l, mt_g, ↓reduceIte, Nat.reduceEqDiff, Nat.reduceLeDiff, ml_0, ml_1, ml_2, ml_3, ml_4, ml_5, ml_6, ml_7, ml_8, ml_9, ml_10, ml_11, ml_12, ml_13, ml_14, ml_16, ml_31, ml_32, ml_40, ml_42, ml_48, ml_50, ml_57, ml_59, ml_60, ml_63, ml_98, ml_100, ml_103, ml_104, ml_105, ml_106, ml_107, ml_108, ml_109, ml_110, ml_111, ml_112, ml_113, ml_114, ml_115, ml_120, ml_127, ml_176, ml_180, ml_200, ml_254, ml_255, ml_256, ml_300, ml_728, ml_832, ml_65536, h1, h2, e, e', q2, q3]
end MV
