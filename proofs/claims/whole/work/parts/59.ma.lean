/-! the mathematics, 20: the text that is read -/
def mp_h (t : Nat → Nat) (n p : Nat) : Nat := if p < n then t p else 4294967295
def mp_ws : List (List Nat) := [[115, 111, 99, 107], [115, 104, 105, 114, 116], [108, 111, 97, 100], [111, 117, 116], [104, 101, 97, 116], [114, 117, 110], [32]]
def mp_l (k : Nat) : Nat := (mp_ws.getD k []).length
def mp_c (k i : Nat) : Nat := (mp_ws.getD k []).getD i 0
theorem mp_l5 : ∀ k, k < 7 → 1 ≤ mp_l k ∧ mp_l k ≤ 5 := by decide +kernel
theorem mp_l3 : ∀ k, k < 6 → 3 ≤ mp_l k := by decide +kernel
theorem mp_c7 : ∀ k, k < 7 → ∀ i, i < 5 → mp_c k i < 128 := by decide +kernel
theorem mp_len0 : ∀ k, k < 7 → f_J0_length_8abf5 (fun _ _ _ => 0) k = some (nI (mp_l k)) := by decide +kernel
theorem mp_len (μ : fw_M) {k : Nat} (hk : k < 7) : f_J0_length_8abf5 μ k = some (nI (mp_l k)) := (show f_J0_length_8abf5 μ k = f_J0_length_8abf5 (fun _ _ _ => 0) k from rfl).trans (mp_len0 k hk)
theorem mp_chr0 : ∀ k, k < 7 → ∀ i, i < 5 → i < mp_l k → f_J0_charAt_5068e (fun _ _ _ => 0) k (nI i) = some (nI (mp_c k i)) := by decide +kernel
theorem mp_chr (μ : fw_M) {k i : Nat} (hk : k < 7) (hi : i < mp_l k) : f_J0_charAt_5068e μ k (nI i) = some (nI (mp_c k i)) := (show f_J0_charAt_5068e μ k (nI i) = f_J0_charAt_5068e (fun _ _ _ => 0) k (nI i) from rfl).trans (mp_chr0 k hk i (by have := (mp_l5 k hk).2; omega) hi)
theorem mp_m1lt : nI 4294967295 < nI 48 := by decide +kernel
def mp_cT (t : Nat → Nat) (n : Nat) (μ : fw_M) : Prop := μ 0 13 1 = nI n ∧ ∀ i, i < n → μ 0 14 i = nI (t i)
def mp_rT (t : Nat → Nat) (n : Nat) (μ : fw_M) : Prop := μ 0 18 17 = nI n ∧ ∀ i, i < n → μ 0 23 i = nI (t i)
def mp_cP (μ a : fw_M) (q : Nat) : Prop := (∀ j f, ¬ (j = 0 ∧ f = 13) → a j f = μ j f) ∧ (∀ i, i ≠ 2 → a 0 13 i = μ 0 13 i) ∧ a 0 13 2 = nI q
def mp_rP (μ a : fw_M) (q b : Nat) : Prop := (∀ j f, ¬ (j = 0 ∧ f = 18) → a j f = μ j f) ∧ (∀ i, i ≠ 16 → i ≠ 19 → a 0 18 i = μ 0 18 i) ∧ a 0 18 16 = nI q ∧ a 0 18 19 = nI b
def mp_rN (μ a : fw_M) (q b j x v : Nat) : Prop := (∀ j' f, ¬ (j' = 0 ∧ (f = 18 ∨ f = 24)) → a j' f = μ j' f) ∧ (∀ i, i ≠ 16 → i ≠ 19 → a 0 18 i = μ 0 18 i) ∧ a 0 18 16 = nI q ∧ a 0 18 19 = nI b ∧ a 0 24 (4 * j + x) = nI v ∧ ∀ i, i ≠ 4 * j + x → a 0 24 i = μ 0 24 i
def mp_q (t : Nat → Nat) (n p k s : Nat) : Prop := s ≤ mp_l k ∧ (∀ i, i < s → p + i < n ∧ t (p + i) = mp_c k i) ∧ (s < mp_l k → ¬ (p + s < n ∧ t (p + s) = mp_c k s))
def mp_d (t : Nat → Nat) (n p : Nat) : Prop := p < n ∧ 48 ≤ t p ∧ t p ≤ 57
def mp_dq (t : Nat → Nat) (n p d e : Nat) : Prop := e ≤ d ∧ (∀ i, i < e → mp_d t n (p + i)) ∧ (e < d → ¬ mp_d t n (p + e))
def mp_v (t : Nat → Nat) (p : Nat) : Nat → Nat
  | 0 => 0
  | e + 1 => 10 * mp_v t p e + (t (p + e) - 48)
theorem mp_ex (Q : Nat → Prop) (d : Nat) : ∃ e, e ≤ d ∧ (∀ i, i < e → Q i) ∧ (e < d → ¬ Q e) := by
  induction d with
  | zero => exact ⟨0, Nat.le_refl 0, fun i hi => absurd hi (Nat.not_lt_zero i), fun h => absurd h (Nat.lt_irrefl 0)⟩
  | succ d ih =>
    obtain ⟨e, h1, h2, h3⟩ := ih
    by_cases h : e < d
    · exact ⟨e, by omega, h2, fun _ => h3 h⟩
    · have hd : e = d := by omega
      subst hd
      by_cases q : Q e
      · refine ⟨e + 1, Nat.le_refl _, fun i hi => ?_, fun z => absurd z (Nat.lt_irrefl _)⟩
        by_cases hie : i = e
        · rw [hie]; exact q
        · exact h2 i (by omega)
      · exact ⟨e, by omega, h2, fun _ => q⟩
theorem mp_v_lt {t : Nat → Nat} {n p : Nat} : ∀ {e : Nat}, (∀ i, i < e → mp_d t n (p + i)) → mp_v t p e + 1 ≤ 10 ^ e
  | 0, _ => Nat.le_refl 1
  | e + 1, h => by
    have h1 := mp_v_lt (e := e) (fun i hi => h i (by omega))
    obtain ⟨-, -, h2⟩ := h e (by omega)
    rw [Nat.pow_succ]
    show 10 * mp_v t p e + (t (p + e) - 48) + 1 ≤ _
    omega
theorem mp_v_lt3 {t : Nat → Nat} {n p d e : Nat} (hd : d ≤ 3) (h : mp_dq t n p d e) : mp_v t p e < 1000 := by
  have h1 := mp_v_lt h.2.1
  have h2 : (10 : Nat) ^ e ≤ 10 ^ 3 := Nat.pow_le_pow_right (by decide) (Nat.le_trans h.1 hd)
  have h3 : (10 : Nat) ^ 3 = 1000 := by decide
  omega
section PP
variable {t : Nat → Nat} {n p : Nat} {μ : fw_M}
theorem mp_heq {c : Nat} (ht : ∀ i, i < n → t i < 65536) (hc : c < 65536) : nI (mp_h t n p) = nI c ↔ (p < n ∧ t p = c) := by
  unfold mp_h
  by_cases h : p < n
  · have := ht p h
    rw [if_pos h, nI_eq (by omega) (by omega)]
    exact ⟨fun z => ⟨h, z⟩, fun z => z.2⟩
  · rw [if_neg h]
    refine ⟨fun z => ?_, fun z => absurd z.1 h⟩
    have h1 := mt_neg2
    rw [z] at h1
    exact absurd (nI_le (Nat.zero_le c) (by omega)) h1
theorem mp_cT_k {a : fw_M} (h : mp_cT t n μ) (h1 : a 0 13 1 = μ 0 13 1) (h2 : a 0 14 = μ 0 14) : mp_cT t n a := ⟨by rw [h1]; exact h.1, by rw [h2]; exact h.2⟩
theorem mp_rT_k {a : fw_M} (h : mp_rT t n μ) (h1 : a 0 18 17 = μ 0 18 17) (h2 : a 0 23 = μ 0 23) : mp_rT t n a := ⟨by rw [h1]; exact h.1, by rw [h2]; exact h.2⟩
theorem mp_here (hn : n ≤ 60) (hT : mp_rT t n μ) {x : Nat} (hx : x < 2) (hpn : p ≤ n) (hp : μ 0 18 16 = nI p) : f_X10_here μ (nI x) = some (nI (mp_h t n (p + x))) := by
  have e1 := hT.1
  unfold mp_h
  by_cases h : p + x < n
  · have h1 : ¬ n ≤ p + x := by omega
    have e := hT.2 (p + x) h
    simp (discharger := omega) only [f_X10_here, nI_add, mt_mul, nI_clamp, nI_leI, nI_ltI, nI_eq, mt_in_t, mt_b1, mt_b2, mt_b3, mt_b4, mt_l, mt_g, ↓reduceIte, Nat.reduceEqDiff, Nat.reduceLeDiff, ml_0, ml_1, ml_2, ml_3, ml_4, ml_5, ml_6, ml_7, ml_8, ml_9, ml_10, ml_11, ml_12, ml_13, ml_14, ml_16, ml_31, ml_32, ml_40, ml_42, ml_48, ml_50, ml_57, ml_59, ml_60, ml_63, ml_98, ml_100, ml_103, ml_104, ml_105, ml_106, ml_107, ml_108, ml_109, ml_110, ml_111, ml_112, ml_113, ml_114, ml_115, ml_120, ml_127, ml_176, ml_180, ml_200, ml_254, ml_255, ml_256, ml_300, ml_728, ml_832, ml_65536, e1, hp, h, h1, e]
  · have h1 : n ≤ p + x := by omega
    simp (discharger := omega) only [f_X10_here, nI_add, mt_mul, nI_clamp, nI_leI, nI_ltI, nI_eq, mt_in_t, mt_b1, mt_b2, mt_b3, mt_b4, mt_l, mt_g, ↓reduceIte, Nat.reduceEqDiff, Nat.reduceLeDiff, ml_0, ml_1, ml_2, ml_3, ml_4, ml_5, ml_6, ml_7, ml_8, ml_9, ml_10, ml_11, ml_12, ml_13, ml_14, ml_16, ml_31, ml_32, ml_40, ml_42, ml_48, ml_50, ml_57, ml_59, ml_60, ml_63, ml_98, ml_100, ml_103, ml_104, ml_105, ml_106, ml_107, ml_108, ml_109, ml_110, ml_111, ml_112, ml_113, ml_114, ml_115, ml_120, ml_127, ml_176, ml_180, ml_200, ml_254, ml_255, ml_256, ml_300, ml_728, ml_832, ml_65536, e1, hp, h, h1, ml_m1]
theorem mp_here0 (hn : n ≤ 60) (hT : mp_rT t n μ) (hpn : p ≤ n) (hp : μ 0 18 16 = nI p) : f_X10_here μ (nI 0) = some (nI (mp_h t n p)) := mp_here hn hT (x := 0) (by decide) hpn hp
theorem mp_same (hn : n ≤ 60) (ht : ∀ i, i < n → t i < 65536) (hT : mp_cT t n μ) (hpn : p ≤ n) (hp : μ 0 13 2 = nI p) {k s : Nat} (hk : k < 6) (hs : mp_q t n p k s) : f_X1_sameLetters μ k = some (nI s) := by
  have l5 := mp_l5 k (by omega)
  have el := mp_len μ (k := k) (by omega)
  have e1 := hT.1
  obtain ⟨s1, s2, s3⟩ := hs
  have key : (fun q (_ : Unit) i => f_X1_sameLetters_L2 μ k q i) 1000 () (nI 0) = some (nI s) := by
    refine mt_det (fun q (_ : Unit) i => f_X1_sameLetters_L2 μ k q i) (fun _ => ()) (N := s) (fun q => ?_) (fun q i hi => ?_) (by omega)
    · show f_X1_sameLetters_L2 μ k (q + 1) (nI s) = some (nI s)
      by_cases h : s = mp_l k
      · simp (discharger := omega) only [f_X1_sameLetters_L2, nI_add, mt_mul, nI_clamp, nI_leI, nI_ltI, nI_eq, mt_in_t, mt_b1, mt_b2, mt_b3, mt_b4, mt_l, mt_g, ↓reduceIte, Nat.reduceEqDiff, Nat.reduceLeDiff, ml_0, ml_1, ml_2, ml_3, ml_4, ml_5, ml_6, ml_7, ml_8, ml_9, ml_10, ml_11, ml_12, ml_13, ml_14, ml_16, ml_31, ml_32, ml_40, ml_42, ml_48, ml_50, ml_57, ml_59, ml_60, ml_63, ml_98, ml_100, ml_103, ml_104, ml_105, ml_106, ml_107, ml_108, ml_109, ml_110, ml_111, ml_112, ml_113, ml_114, ml_115, ml_120, ml_127, ml_176, ml_180, ml_200, ml_254, ml_255, ml_256, ml_300, ml_728, ml_832, ml_65536, el, h, Nat.le_refl]
      · have h1 : ¬ mp_l k ≤ s := by omega
        have h2 := s3 (by omega)
        by_cases h3 : p + s < n
        · have h4 : ¬ n ≤ p + s := by omega
          have e14 := hT.2 (p + s) h3
          have b := ht (p + s) h3
          have b2 := mp_c7 k (by omega) s (by omega)
          have h5 : ¬ t (p + s) = mp_c k s := fun z => h2 ⟨h3, z⟩
          have ec := mp_chr μ (k := k) (i := s) (by omega) (by omega)
          simp (discharger := omega) only [f_X1_sameLetters_L2, nI_add, mt_mul, nI_clamp, nI_leI, nI_ltI, nI_eq, mt_in_t, mt_b1, mt_b2, mt_b3, mt_b4, mt_l, mt_g, ↓reduceIte, Nat.reduceEqDiff, Nat.reduceLeDiff, ml_0, ml_1, ml_2, ml_3, ml_4, ml_5, ml_6, ml_7, ml_8, ml_9, ml_10, ml_11, ml_12, ml_13, ml_14, ml_16, ml_31, ml_32, ml_40, ml_42, ml_48, ml_50, ml_57, ml_59, ml_60, ml_63, ml_98, ml_100, ml_103, ml_104, ml_105, ml_106, ml_107, ml_108, ml_109, ml_110, ml_111, ml_112, ml_113, ml_114, ml_115, ml_120, ml_127, ml_176, ml_180, ml_200, ml_254, ml_255, ml_256, ml_300, ml_728, ml_832, ml_65536, el, ec, e1, hp, h1, h4, h5, e14]
        · have h4 : n ≤ p + s := by omega
          simp (discharger := omega) only [f_X1_sameLetters_L2, nI_add, mt_mul, nI_clamp, nI_leI, nI_ltI, nI_eq, mt_in_t, mt_b1, mt_b2, mt_b3, mt_b4, mt_l, mt_g, ↓reduceIte, Nat.reduceEqDiff, Nat.reduceLeDiff, ml_0, ml_1, ml_2, ml_3, ml_4, ml_5, ml_6, ml_7, ml_8, ml_9, ml_10, ml_11, ml_12, ml_13, ml_14, ml_16, ml_31, ml_32, ml_40, ml_42, ml_48, ml_50, ml_57, ml_59, ml_60, ml_63, ml_98, ml_100, ml_103, ml_104, ml_105, ml_106, ml_107, ml_108, ml_109, ml_110, ml_111, ml_112, ml_113, ml_114, ml_115, ml_120, ml_127, ml_176, ml_180, ml_200, ml_254, ml_255, ml_256, ml_300, ml_728, ml_832, ml_65536, el, e1, hp, h1, h4]
    · show f_X1_sameLetters_L2 μ k (q + 1) (nI i) = f_X1_sameLetters_L2 μ k q (nI (i + 1))
      have h1 : ¬ mp_l k ≤ i := by omega
      obtain ⟨h3, h5⟩ := s2 i hi
      have h4 : ¬ n ≤ p + i := by omega
      have e14 := hT.2 (p + i) h3
      have ec := mp_chr μ (k := k) (i := i) (by omega) (by omega)
      rw [h5] at e14
      simp (discharger := omega) only [f_X1_sameLetters_L2, nI_add, mt_mul, nI_clamp, nI_leI, nI_ltI, nI_eq, mt_in_t, mt_b1, mt_b2, mt_b3, mt_b4, mt_l, mt_g, ↓reduceIte, Nat.reduceEqDiff, Nat.reduceLeDiff, ml_0, ml_1, ml_2, ml_3, ml_4, ml_5, ml_6, ml_7, ml_8, ml_9, ml_10, ml_11, ml_12, ml_13, ml_14, ml_16, ml_31, ml_32, ml_40, ml_42, ml_48, ml_50, ml_57, ml_59, ml_60, ml_63, ml_98, ml_100, ml_103, ml_104, ml_105, ml_106, ml_107, ml_108, ml_109, ml_110, ml_111, ml_112, ml_113, ml_114, ml_115, ml_120, ml_127, ml_176, ml_180, ml_200, ml_254, ml_255, ml_256, ml_300, ml_728, ml_832, ml_65536, el, ec, e1, hp, h1, h4, e14]
  exact key
theorem mp_says_step (hn : n ≤ 60) (ht : ∀ i, i < n → t i < 65536) (hT : mp_rT t n μ) {k s q i : Nat} (hk : k < 7) (hs : mp_q t n p k s) {a : fw_M} (hi : i < s) (hI : mp_rP μ a (p + i) 0) : ∃ a', mp_rP μ a' (p + (i + 1)) 0 ∧ f_X10_says_L2 k (q + 1) a (nI i) = f_X10_says_L2 k q a' (nI (i + 1)) := by
  have l5 := mp_l5 k hk
  have el := mp_len a (k := k) hk
  obtain ⟨s1, s2, s3⟩ := hs
  obtain ⟨i1, i2, i3, i4⟩ := hI
  obtain ⟨h3, h5⟩ := s2 i hi
  have h1 : ¬ mp_l k ≤ i := by omega
  have ec := mp_chr a (k := k) (i := i) hk (by omega)
  have b2 := mp_c7 k hk i (by omega)
  have T' : mp_rT t n a := mp_rT_k hT (i2 17 (by omega) (by omega)) (i1 0 23 (by omega))
  have eh := mp_here0 hn T' (p := p + i) (by omega) i3
  rw [(mp_heq ht (by omega)).mpr ⟨h3, h5⟩] at eh
  refine ⟨fw_u (fw_u a 0 18 19 (nI 0)) 0 18 16 (nI (p + i + 1)), ⟨fun j f q => ?_, fun r q1 q2 => ?_, mt_uy rfl, ?_⟩, ?_⟩
  · rw [fw_u_o (by omega), fw_u_o (by omega), i1 j f q]
  · rw [mt_un (by omega), mt_un (by omega), i2 r q1 q2]
  · rw [mt_un (by omega), mt_uy rfl]
  · simp (discharger := omega) only [f_X10_says_L2, f_X10_says_J36, nI_add, mt_mul, nI_clamp, nI_leI, nI_ltI, nI_eq, mt_in_t, mt_b1, mt_b2, mt_b3, mt_b4, mt_l, mt_g, ↓reduceIte, Nat.reduceEqDiff, Nat.reduceLeDiff, ml_0, ml_1, ml_2, ml_3, ml_4, ml_5, ml_6, ml_7, ml_8, ml_9, ml_10, ml_11, ml_12, ml_13, ml_14, ml_16, ml_31, ml_32, ml_40, ml_42, ml_48, ml_50, ml_57, ml_59, ml_60, ml_63, ml_98, ml_100, ml_103, ml_104, ml_105, ml_106, ml_107, ml_108, ml_109, ml_110, ml_111, ml_112, ml_113, ml_114, ml_115, ml_120, ml_127, ml_176, ml_180, ml_200, ml_254, ml_255, ml_256, ml_300, ml_728, ml_832, ml_65536, el, ec, h1, i4, eh, mt_bo, mt_un, mt_uy, i3]
theorem mp_says (hn : n ≤ 60) (ht : ∀ i, i < n → t i < 65536) (hT : mp_rT t n μ) (hpn : p ≤ n) (hp : μ 0 18 16 = nI p) (h9 : μ 0 18 19 = nI 0) {k s : Nat} (hk : k < 7) (hs : mp_q t n p k s) : ∃ a, f_X10_says μ k = some (a, ()) ∧ mp_rP μ a (p + s) (if s = mp_l k then 0 else 1) := by
  have l5 := mp_l5 k hk
  have sl := hs.1
  have base : mp_rP μ μ (p + 0) 0 := ⟨fun _ _ _ => rfl, fun _ _ _ => rfl, hp, h9⟩
  by_cases h : s = mp_l k
  · rw [if_pos h]
    have key := mt_while (L := fun q a i => f_X10_says_L2 k q a i) (I := fun i a => mp_rP μ a (p + i) 0) (P := fun r => ∃ a, r = some (a, ()) ∧ mp_rP μ a (p + s) 0) (N := s) (fun q a hI => ⟨a, by
      have el := mp_len a (k := k) hk
      show f_X10_says_L2 k (q + 1) a (nI s) = _
      rw [h]
      simp (discharger := omega) only [f_X10_says_L2, nI_add, mt_mul, nI_clamp, nI_leI, nI_ltI, nI_eq, mt_in_t, mt_b1, mt_b2, mt_b3, mt_b4, mt_l, mt_g, ↓reduceIte, Nat.reduceEqDiff, Nat.reduceLeDiff, ml_0, ml_1, ml_2, ml_3, ml_4, ml_5, ml_6, ml_7, ml_8, ml_9, ml_10, ml_11, ml_12, ml_13, ml_14, ml_16, ml_31, ml_32, ml_40, ml_42, ml_48, ml_50, ml_57, ml_59, ml_60, ml_63, ml_98, ml_100, ml_103, ml_104, ml_105, ml_106, ml_107, ml_108, ml_109, ml_110, ml_111, ml_112, ml_113, ml_114, ml_115, ml_120, ml_127, ml_176, ml_180, ml_200, ml_254, ml_255, ml_256, ml_300, ml_728, ml_832, ml_65536, el, Nat.le_refl], hI⟩) (fun q a i hi hI => Or.inl (mp_says_step hn ht hT hk hs hi hI)) s 1000 μ 0 (by omega) (by omega) base
    exact key
  · rw [if_neg h]
    have key := mt_while (L := fun q a i => f_X10_says_L2 k q a i) (I := fun i a => (i ≤ s → mp_rP μ a (p + i) 0) ∧ (¬ i ≤ s → mp_rP μ a (p + s) 1)) (P := fun r => ∃ a, r = some (a, ()) ∧ mp_rP μ a (p + s) 1) (N := s + 1) (fun q a hI => ⟨a, by
      have el := mp_len a (k := k) hk
      have h9 := (hI.2 (by omega)).2.2.2
      show f_X10_says_L2 k (q + 1) a (nI (s + 1)) = _
      by_cases z : mp_l k ≤ s + 1
      · simp (discharger := omega) only [f_X10_says_L2, nI_add, mt_mul, nI_clamp, nI_leI, nI_ltI, nI_eq, mt_in_t, mt_b1, mt_b2, mt_b3, mt_b4, mt_l, mt_g, ↓reduceIte, Nat.reduceEqDiff, Nat.reduceLeDiff, ml_0, ml_1, ml_2, ml_3, ml_4, ml_5, ml_6, ml_7, ml_8, ml_9, ml_10, ml_11, ml_12, ml_13, ml_14, ml_16, ml_31, ml_32, ml_40, ml_42, ml_48, ml_50, ml_57, ml_59, ml_60, ml_63, ml_98, ml_100, ml_103, ml_104, ml_105, ml_106, ml_107, ml_108, ml_109, ml_110, ml_111, ml_112, ml_113, ml_114, ml_115, ml_120, ml_127, ml_176, ml_180, ml_200, ml_254, ml_255, ml_256, ml_300, ml_728, ml_832, ml_65536, el, z]
      · simp (discharger := omega) only [f_X10_says_L2, nI_add, mt_mul, nI_clamp, nI_leI, nI_ltI, nI_eq, mt_in_t, mt_b1, mt_b2, mt_b3, mt_b4, mt_l, mt_g, ↓reduceIte, Nat.reduceEqDiff, Nat.reduceLeDiff, ml_0, ml_1, ml_2, ml_3, ml_4, ml_5, ml_6, ml_7, ml_8, ml_9, ml_10, ml_11, ml_12, ml_13, ml_14, ml_16, ml_31, ml_32, ml_40, ml_42, ml_48, ml_50, ml_57, ml_59, ml_60, ml_63, ml_98, ml_100, ml_103, ml_104, ml_105, ml_106, ml_107, ml_108, ml_109, ml_110, ml_111, ml_112, ml_113, ml_114, ml_115, ml_120, ml_127, ml_176, ml_180, ml_200, ml_254, ml_255, ml_256, ml_300, ml_728, ml_832, ml_65536, el, z, h9], hI.2 (by omega)⟩) (fun q a i hi hI => Or.inl (by
      by_cases z : i < s
      · obtain ⟨a', A, B⟩ := mp_says_step (q := q) hn ht hT hk hs z (hI.1 (by omega))
        exact ⟨a', ⟨fun _ => A, fun y => absurd (by omega) y⟩, B⟩
      · have hi' : i = s := by omega
        subst hi'
        obtain ⟨i1, i2, i3, i4⟩ := hI.1 (Nat.le_refl _)
        obtain ⟨s1, s2, s3⟩ := hs
        have h1 : ¬ mp_l k ≤ i := by omega
        have el := mp_len a (k := k) hk
        have ec := mp_chr a (k := k) (i := i) hk (by omega)
        have b2 := mp_c7 k hk i (by omega)
        have T' : mp_rT t n a := mp_rT_k hT (i2 17 (by omega) (by omega)) (i1 0 23 (by omega))
        have hle : p + i ≤ n := by
          by_cases y : i = 0
          · omega
          · have := (s2 (i - 1) (by omega)).1
            omega
        have eh := mp_here0 hn T' (p := p + i) hle i3
        have hne : ¬ nI (mp_h t n (p + i)) = nI (mp_c k i) := fun y => s3 (by omega) ((mp_heq ht (by omega)).mp y)
        refine ⟨fw_u (fw_u a 0 18 19 (nI 1)) 0 18 16 (nI (p + i)), ⟨fun y => absurd y (by omega), fun _ => ⟨fun j f q => ?_, fun r q1 q2 => ?_, mt_uy rfl, ?_⟩⟩, ?_⟩
        · rw [fw_u_o (by omega), fw_u_o (by omega), i1 j f q]
        · rw [mt_un (by omega), mt_un (by omega), i2 r q1 q2]
        · rw [mt_un (by omega), mt_uy rfl]
        · show f_X10_says_L2 k (q + 1) a (nI i) = f_X10_says_L2 k q _ (nI (i + 1))
          generalize nI (mp_h t n (p + i)) = hh at eh hne
          simp (discharger := omega) only [f_X10_says_L2, f_X10_says_J36, nI_add, mt_mul, nI_clamp, nI_leI, nI_ltI, nI_eq, mt_in_t, mt_b1, mt_b2, mt_b3, mt_b4, mt_l, mt_g, ↓reduceIte, Nat.reduceEqDiff, Nat.reduceLeDiff, ml_0, ml_1, ml_2, ml_3, ml_4, ml_5, ml_6, ml_7, ml_8, ml_9, ml_10, ml_11, ml_12, ml_13, ml_14, ml_16, ml_31, ml_32, ml_40, ml_42, ml_48, ml_50, ml_57, ml_59, ml_60, ml_63, ml_98, ml_100, ml_103, ml_104, ml_105, ml_106, ml_107, ml_108, ml_109, ml_110, ml_111, ml_112, ml_113, ml_114, ml_115, ml_120, ml_127, ml_176, ml_180, ml_200, ml_254, ml_255, ml_256, ml_300, ml_728, ml_832, ml_65536, el, ec, h1, i4, eh, hne, mt_bo, mt_un, mt_uy, i3, Nat.add_zero])) (s + 1) 1000 μ 0 (by omega) (by omega) ⟨fun _ => base, fun y => absurd (Nat.zero_le s) y⟩
    exact key
theorem mp_says1 {k m : Nat} (hk : k < 7) (h9 : μ 0 18 19 = nI 1) : f_X10_says_L2 k (m + 1) μ (nI 0) = some (μ, ()) := by
  have l5 := mp_l5 k hk
  have el := mp_len μ (k := k) hk
  have h1 : ¬ mp_l k ≤ 0 := by omega
  simp (discharger := omega) only [f_X10_says_L2, nI_add, mt_mul, nI_clamp, nI_leI, nI_ltI, nI_eq, mt_in_t, mt_b1, mt_b2, mt_b3, mt_b4, mt_l, mt_g, ↓reduceIte, Nat.reduceEqDiff, Nat.reduceLeDiff, ml_0, ml_1, ml_2, ml_3, ml_4, ml_5, ml_6, ml_7, ml_8, ml_9, ml_10, ml_11, ml_12, ml_13, ml_14, ml_16, ml_31, ml_32, ml_40, ml_42, ml_48, ml_50, ml_57, ml_59, ml_60, ml_63, ml_98, ml_100, ml_103, ml_104, ml_105, ml_106, ml_107, ml_108, ml_109, ml_110, ml_111, ml_112, ml_113, ml_114, ml_115, ml_120, ml_127, ml_176, ml_180, ml_200, ml_254, ml_255, ml_256, ml_300, ml_728, ml_832, ml_65536, el, h1, h9]
/-! digits -/
theorem mp_isD1 (hn : n ≤ 60) (hT : mp_cT t n μ) (hp : μ 0 13 2 = nI p) (h : mp_d t n p) : f_X1_isAtDigit μ = some (nI 1) := by
  obtain ⟨h1, h2, h3⟩ := h
  have e1 := hT.1
  have e2 := hT.2 p h1
  have h4 : ¬ n ≤ p := by omega
  have h5 : ¬ t p < 48 := by omega
  have h6 : ¬ 57 < t p := by omega
  simp (discharger := omega) only [f_X1_isAtDigit, nI_add, mt_mul, nI_clamp, nI_leI, nI_ltI, nI_eq, mt_in_t, mt_b1, mt_b2, mt_b3, mt_b4, mt_l, mt_g, ↓reduceIte, Nat.reduceEqDiff, Nat.reduceLeDiff, ml_0, ml_1, ml_2, ml_3, ml_4, ml_5, ml_6, ml_7, ml_8, ml_9, ml_10, ml_11, ml_12, ml_13, ml_14, ml_16, ml_31, ml_32, ml_40, ml_42, ml_48, ml_50, ml_57, ml_59, ml_60, ml_63, ml_98, ml_100, ml_103, ml_104, ml_105, ml_106, ml_107, ml_108, ml_109, ml_110, ml_111, ml_112, ml_113, ml_114, ml_115, ml_120, ml_127, ml_176, ml_180, ml_200, ml_254, ml_255, ml_256, ml_300, ml_728, ml_832, ml_65536, e1, e2, hp, h4, h5, h6]
theorem mp_isD0 (hn : n ≤ 60) (ht : ∀ i, i < n → t i < 65536) (hT : mp_cT t n μ) (hpn : p ≤ n) (hp : μ 0 13 2 = nI p) (h : ¬ mp_d t n p) : f_X1_isAtDigit μ = some (nI 0) := by
  have e1 := hT.1
  by_cases h1 : p < n
  · have e2 := hT.2 p h1
    have b := ht p h1
    have h4 : ¬ n ≤ p := by omega
    by_cases h5 : t p < 48
    · simp (discharger := omega) only [f_X1_isAtDigit, nI_add, mt_mul, nI_clamp, nI_leI, nI_ltI, nI_eq, mt_in_t, mt_b1, mt_b2, mt_b3, mt_b4, mt_l, mt_g, ↓reduceIte, Nat.reduceEqDiff, Nat.reduceLeDiff, ml_0, ml_1, ml_2, ml_3, ml_4, ml_5, ml_6, ml_7, ml_8, ml_9, ml_10, ml_11, ml_12, ml_13, ml_14, ml_16, ml_31, ml_32, ml_40, ml_42, ml_48, ml_50, ml_57, ml_59, ml_60, ml_63, ml_98, ml_100, ml_103, ml_104, ml_105, ml_106, ml_107, ml_108, ml_109, ml_110, ml_111, ml_112, ml_113, ml_114, ml_115, ml_120, ml_127, ml_176, ml_180, ml_200, ml_254, ml_255, ml_256, ml_300, ml_728, ml_832, ml_65536, e1, e2, hp, h4, h5]
    · have h6 : 57 < t p := by
        by_cases z : 57 < t p
        · exact z
        · exact absurd ⟨h1, by omega, by omega⟩ h
      simp (discharger := omega) only [f_X1_isAtDigit, nI_add, mt_mul, nI_clamp, nI_leI, nI_ltI, nI_eq, mt_in_t, mt_b1, mt_b2, mt_b3, mt_b4, mt_l, mt_g, ↓reduceIte, Nat.reduceEqDiff, Nat.reduceLeDiff, ml_0, ml_1, ml_2, ml_3, ml_4, ml_5, ml_6, ml_7, ml_8, ml_9, ml_10, ml_11, ml_12, ml_13, ml_14, ml_16, ml_31, ml_32, ml_40, ml_42, ml_48, ml_50, ml_57, ml_59, ml_60, ml_63, ml_98, ml_100, ml_103, ml_104, ml_105, ml_106, ml_107, ml_108, ml_109, ml_110, ml_111, ml_112, ml_113, ml_114, ml_115, ml_120, ml_127, ml_176, ml_180, ml_200, ml_254, ml_255, ml_256, ml_300, ml_728, ml_832, ml_65536, e1, e2, hp, h4, h5, h6]
  · have h4 : n ≤ p := by omega
    simp (discharger := omega) only [f_X1_isAtDigit, nI_add, mt_mul, nI_clamp, nI_leI, nI_ltI, nI_eq, mt_in_t, mt_b1, mt_b2, mt_b3, mt_b4, mt_l, mt_g, ↓reduceIte, Nat.reduceEqDiff, Nat.reduceLeDiff, ml_0, ml_1, ml_2, ml_3, ml_4, ml_5, ml_6, ml_7, ml_8, ml_9, ml_10, ml_11, ml_12, ml_13, ml_14, ml_16, ml_31, ml_32, ml_40, ml_42, ml_48, ml_50, ml_57, ml_59, ml_60, ml_63, ml_98, ml_100, ml_103, ml_104, ml_105, ml_106, ml_107, ml_108, ml_109, ml_110, ml_111, ml_112, ml_113, ml_114, ml_115, ml_120, ml_127, ml_176, ml_180, ml_200, ml_254, ml_255, ml_256, ml_300, ml_728, ml_832, ml_65536, e1, hp, h4]
theorem mp_rD0 (ht : ∀ i, i < n → t i < 65536) (h : ¬ mp_d t n p) : f_X10_in μ (nI (mp_h t n p)) (nI 48) (nI 57) = some (nI 0) := by
  unfold mp_h
  by_cases h1 : p < n
  · have b := ht p h1
    by_cases h5 : t p < 48
    · simp (discharger := omega) only [f_X10_in, nI_add, mt_mul, nI_clamp, nI_leI, nI_ltI, nI_eq, mt_in_t, mt_b1, mt_b2, mt_b3, mt_b4, mt_l, mt_g, ↓reduceIte, Nat.reduceEqDiff, Nat.reduceLeDiff, ml_0, ml_1, ml_2, ml_3, ml_4, ml_5, ml_6, ml_7, ml_8, ml_9, ml_10, ml_11, ml_12, ml_13, ml_14, ml_16, ml_31, ml_32, ml_40, ml_42, ml_48, ml_50, ml_57, ml_59, ml_60, ml_63, ml_98, ml_100, ml_103, ml_104, ml_105, ml_106, ml_107, ml_108, ml_109, ml_110, ml_111, ml_112, ml_113, ml_114, ml_115, ml_120, ml_127, ml_176, ml_180, ml_200, ml_254, ml_255, ml_256, ml_300, ml_728, ml_832, ml_65536, h1, h5]
    · have h6 : 57 < t p := by
        by_cases z : 57 < t p
        · exact z
        · exact absurd ⟨h1, by omega, by omega⟩ h
      simp (discharger := omega) only [f_X10_in, nI_add, mt_mul, nI_clamp, nI_leI, nI_ltI, nI_eq, mt_in_t, mt_b1, mt_b2, mt_b3, mt_b4, mt_l, mt_g, ↓reduceIte, Nat.reduceEqDiff, Nat.reduceLeDiff, ml_0, ml_1, ml_2, ml_3, ml_4, ml_5, ml_6, ml_7, ml_8, ml_9, ml_10, ml_11, ml_12, ml_13, ml_14, ml_16, ml_31, ml_32, ml_40, ml_42, ml_48, ml_50, ml_57, ml_59, ml_60, ml_63, ml_98, ml_100, ml_103, ml_104, ml_105, ml_106, ml_107, ml_108, ml_109, ml_110, ml_111, ml_112, ml_113, ml_114, ml_115, ml_120, ml_127, ml_176, ml_180, ml_200, ml_254, ml_255, ml_256, ml_300, ml_728, ml_832, ml_65536, h1, h5, h6]
  · have h2 := mp_m1lt
    rw [if_neg h1]
    unfold f_X10_in
    rw [if_pos h2]
    rfl
theorem mp_cdig (hn : n ≤ 60) (ht : ∀ i, i < n → t i < 65536) (hT : mp_cT t n μ) (hpn : p ≤ n) (hp : μ 0 13 2 = nI p) {d e : Nat} (hd : d ≤ 3) (hq : mp_dq t n p d e) : ∃ a, f_X1_readNumber_L28 1000 μ (nI d) (nI 0) (nI 0) = some (a, nI (mp_v t p e)) ∧ mp_cP μ a (p + e) := by
  have v3 := mp_v_lt3 hd hq
  obtain ⟨q1, q2, q3⟩ := hq
  have hle : ∀ i, i ≤ e → p + i ≤ n := fun i hi => by
    by_cases y : i = 0
    · omega
    · have := (q2 (i - 1) (by omega)).1
      omega
  have key := mt_while (L := fun q (a : fw_M × Nat) i => f_X1_readNumber_L28 q a.1 (nI d) (nI a.2) i) (I := fun i a => mp_cP μ a.1 (p + i) ∧ a.2 = mp_v t p i) (P := fun r => ∃ a, r = some (a, nI (mp_v t p e)) ∧ mp_cP μ a (p + e)) (N := e) (fun q a hI => ⟨a.1, by
      obtain ⟨⟨i1, i2, i3⟩, i4⟩ := hI
      show f_X1_readNumber_L28 (q + 1) a.1 (nI d) (nI a.2) (nI e) = _
      rw [i4]
      by_cases h : e = d
      · have h1 : d ≤ e := by omega
        simp (discharger := omega) only [f_X1_readNumber_L28, nI_add, mt_mul, nI_clamp, nI_leI, nI_ltI, nI_eq, mt_in_t, mt_b1, mt_b2, mt_b3, mt_b4, mt_l, mt_g, ↓reduceIte, Nat.reduceEqDiff, Nat.reduceLeDiff, ml_0, ml_1, ml_2, ml_3, ml_4, ml_5, ml_6, ml_7, ml_8, ml_9, ml_10, ml_11, ml_12, ml_13, ml_14, ml_16, ml_31, ml_32, ml_40, ml_42, ml_48, ml_50, ml_57, ml_59, ml_60, ml_63, ml_98, ml_100, ml_103, ml_104, ml_105, ml_106, ml_107, ml_108, ml_109, ml_110, ml_111, ml_112, ml_113, ml_114, ml_115, ml_120, ml_127, ml_176, ml_180, ml_200, ml_254, ml_255, ml_256, ml_300, ml_728, ml_832, ml_65536, h1]
      · have h1 : ¬ d ≤ e := by omega
        have T' : mp_cT t n a.1 := mp_cT_k hT (i2 1 (by omega)) (i1 0 14 (by omega))
        have e0 := mp_isD0 hn ht T' (hle e (Nat.le_refl e)) i3 (q3 (by omega))
        simp (discharger := omega) only [f_X1_readNumber_L28, nI_add, mt_mul, nI_clamp, nI_leI, nI_ltI, nI_eq, mt_in_t, mt_b1, mt_b2, mt_b3, mt_b4, mt_l, mt_g, ↓reduceIte, Nat.reduceEqDiff, Nat.reduceLeDiff, ml_0, ml_1, ml_2, ml_3, ml_4, ml_5, ml_6, ml_7, ml_8, ml_9, ml_10, ml_11, ml_12, ml_13, ml_14, ml_16, ml_31, ml_32, ml_40, ml_42, ml_48, ml_50, ml_57, ml_59, ml_60, ml_63, ml_98, ml_100, ml_103, ml_104, ml_105, ml_106, ml_107, ml_108, ml_109, ml_110, ml_111, ml_112, ml_113, ml_114, ml_115, ml_120, ml_127, ml_176, ml_180, ml_200, ml_254, ml_255, ml_256, ml_300, ml_728, ml_832, ml_65536, h1, e0], hI.1⟩) (fun q a i hi hI => Or.inl (by
      obtain ⟨⟨i1, i2, i3⟩, i4⟩ := hI
      have hd1 := q2 i hi
      have T' : mp_cT t n a.1 := mp_cT_k hT (i2 1 (by omega)) (i1 0 14 (by omega))
      have e0 := mp_isD1 hn T' i3 hd1
      have e2 := T'.2 (p + i) hd1.1
      have h1 : ¬ d ≤ i := by omega
      have h48 : nI (t (p + i)) - nI 48 = nI (t (p + i) - 48) := mt_sub hd1.2.1
      have hb := hd1.1
      refine ⟨(fw_u a.1 0 13 2 (nI (p + i + 1)), 10 * mp_v t p i + (t (p + i) - 48)), ⟨⟨fun j f q => ?_, fun r q1 => ?_, (mt_uy rfl : fw_u a.1 0 13 2 (nI (p + i + 1)) 0 13 2 = nI (p + i + 1))⟩, rfl⟩, ?_⟩
      · show fw_u a.1 0 13 2 (nI (p + i + 1)) j f = _
        rw [fw_u_o (by omega), i1 j f q]
      · show fw_u a.1 0 13 2 (nI (p + i + 1)) 0 13 r = _
        rw [mt_un (by omega), i2 r q1]
      · show f_X1_readNumber_L28 (q + 1) a.1 (nI d) (nI a.2) (nI i) = f_X1_readNumber_L28 q (fw_u a.1 0 13 2 (nI (p + i + 1))) (nI d) (nI (10 * mp_v t p i + (t (p + i) - 48))) (nI (i + 1))
        rw [i4]
        simp (discharger := omega) only [f_X1_readNumber_L28, nI_add, mt_mul, nI_clamp, nI_leI, nI_ltI, nI_eq, mt_in_t, mt_b1, mt_b2, mt_b3, mt_b4, mt_l, mt_g, ↓reduceIte, Nat.reduceEqDiff, Nat.reduceLeDiff, ml_0, ml_1, ml_2, ml_3, ml_4, ml_5, ml_6, ml_7, ml_8, ml_9, ml_10, ml_11, ml_12, ml_13, ml_14, ml_16, ml_31, ml_32, ml_40, ml_42, ml_48, ml_50, ml_57, ml_59, ml_60, ml_63, ml_98, ml_100, ml_103, ml_104, ml_105, ml_106, ml_107, ml_108, ml_109, ml_110, ml_111, ml_112, ml_113, ml_114, ml_115, ml_120, ml_127, ml_176, ml_180, ml_200, ml_254, ml_255, ml_256, ml_300, ml_728, ml_832, ml_65536, h1, e0, i3, e2, h48])) e 1000 (μ, 0) 0 (by omega) (by omega) ⟨⟨fun _ _ _ => rfl, fun _ _ => rfl, hp⟩, rfl⟩
  exact key
theorem mp_J69 {a : fw_M} {j x v e : Nat} (h9 : a 0 18 19 = nI 0) (hj : a 0 18 18 = nI j) (hj12 : j < 12) (hx : x ≤ 3) (he : e ≤ 3) : f_X10_number_J69 a (nI x) (nI v) (nI e) = some (fw_u (fw_u a 0 18 19 (nI (if e = 0 then 1 else 0))) 0 24 (4 * j + x) (nI v), ()) := by
  by_cases h : e = 0
  · simp (discharger := omega) only [f_X10_number_J69, f_X10_number_J82, f_X10_number_J87, nI_add, mt_mul, nI_clamp, nI_leI, nI_ltI, nI_eq, mt_in_t, mt_b1, mt_b2, mt_b3, mt_b4, mt_l, mt_g, ↓reduceIte, Nat.reduceEqDiff, Nat.reduceLeDiff, ml_0, ml_1, ml_2, ml_3, ml_4, ml_5, ml_6, ml_7, ml_8, ml_9, ml_10, ml_11, ml_12, ml_13, ml_14, ml_16, ml_31, ml_32, ml_40, ml_42, ml_48, ml_50, ml_57, ml_59, ml_60, ml_63, ml_98, ml_100, ml_103, ml_104, ml_105, ml_106, ml_107, ml_108, ml_109, ml_110, ml_111, ml_112, ml_113, ml_114, ml_115, ml_120, ml_127, ml_176, ml_180, ml_200, ml_254, ml_255, ml_256, ml_300, ml_728, ml_832, ml_65536, h9, h, mt_bo, mt_un, hj]
  · simp (discharger := omega) only [f_X10_number_J69, f_X10_number_J82, f_X10_number_J87, nI_add, mt_mul, nI_clamp, nI_leI, nI_ltI, nI_eq, mt_in_t, mt_b1, mt_b2, mt_b3, mt_b4, mt_l, mt_g, ↓reduceIte, Nat.reduceEqDiff, Nat.reduceLeDiff, ml_0, ml_1, ml_2, ml_3, ml_4, ml_5, ml_6, ml_7, ml_8, ml_9, ml_10, ml_11, ml_12, ml_13, ml_14, ml_16, ml_31, ml_32, ml_40, ml_42, ml_48, ml_50, ml_57, ml_59, ml_60, ml_63, ml_98, ml_100, ml_103, ml_104, ml_105, ml_106, ml_107, ml_108, ml_109, ml_110, ml_111, ml_112, ml_113, ml_114, ml_115, ml_120, ml_127, ml_176, ml_180, ml_200, ml_254, ml_255, ml_256, ml_300, ml_728, ml_832, ml_65536, h9, h, mt_bo, mt_un, hj]
theorem mp_L11_1 {j x d m : Nat} (h9 : μ 0 18 19 = nI 1) (hj : μ 0 18 18 = nI j) (hj12 : j < 12) (hx : x ≤ 3) : f_X10_number_L11 (m + 1) μ (nI x) (nI d) (nI 0) (nI 0) = some (fw_u (fw_u μ 0 18 19 (nI 1)) 0 24 (4 * j + x) (nI 0), ()) := by
  simp (discharger := omega) only [f_X10_number_L11, f_X10_number_J69, f_X10_number_J82, f_X10_number_J87, nI_add, mt_mul, nI_clamp, nI_leI, nI_ltI, nI_eq, mt_in_t, mt_b1, mt_b2, mt_b3, mt_b4, mt_l, mt_g, ↓reduceIte, Nat.reduceEqDiff, Nat.reduceLeDiff, ml_0, ml_1, ml_2, ml_3, ml_4, ml_5, ml_6, ml_7, ml_8, ml_9, ml_10, ml_11, ml_12, ml_13, ml_14, ml_16, ml_31, ml_32, ml_40, ml_42, ml_48, ml_50, ml_57, ml_59, ml_60, ml_63, ml_98, ml_100, ml_103, ml_104, ml_105, ml_106, ml_107, ml_108, ml_109, ml_110, ml_111, ml_112, ml_113, ml_114, ml_115, ml_120, ml_127, ml_176, ml_180, ml_200, ml_254, ml_255, ml_256, ml_300, ml_728, ml_832, ml_65536, h9, mt_bo, mt_un, hj]
theorem mp_rN_of {a : fw_M} {q b b' j x v : Nat} (h : mp_rP μ a q b) : mp_rN μ (fw_u (fw_u a 0 18 19 (nI b')) 0 24 (4 * j + x) (nI v)) q b' j x v := by
  obtain ⟨i1, i2, i3, i4⟩ := h
  refine ⟨fun j' f z => ?_, fun i z1 z2 => ?_, ?_, ?_, mt_uy rfl, fun i z => ?_⟩
  · rw [fw_u_o (by omega), fw_u_o (by omega), i1 j' f (by omega)]
  · rw [mt_un (by omega), mt_un (by omega), i2 i z1 z2]
  · rw [mt_un (by omega), mt_un (by omega), i3]
  · rw [mt_un (by omega), mt_uy rfl]
  · rw [mt_un (by omega), fw_u_o (by omega), i1 0 24 (by omega)]
theorem mp_rdig (hn : n ≤ 60) (ht : ∀ i, i < n → t i < 65536) (hT : mp_rT t n μ) (hpn : p ≤ n) (hp : μ 0 18 16 = nI p) (h9 : μ 0 18 19 = nI 0) {d e j x : Nat} (hj : μ 0 18 18 = nI j) (hj12 : j < 12) (hx : x ≤ 3) (hd : d ≤ 3) (hq : mp_dq t n p d e) : ∃ a, f_X10_number_L11 1000 μ (nI x) (nI d) (nI 0) (nI 0) = some (a, ()) ∧ mp_rN μ a (p + e) (if e = 0 then 1 else 0) j x (mp_v t p e) := by
  have v3 := mp_v_lt3 hd hq
  obtain ⟨q1, q2, q3⟩ := hq
  have hle : ∀ i, i ≤ e → p + i ≤ n := fun i hi => by
    by_cases y : i = 0
    · omega
    · have := (q2 (i - 1) (by omega)).1
      omega
  have key := mt_while (L := fun q (a : fw_M × Nat) i => f_X10_number_L11 q a.1 (nI x) (nI d) (nI a.2) i) (I := fun i a => mp_rP μ a.1 (p + i) 0 ∧ a.2 = mp_v t p i) (P := fun r => ∃ a, r = some (a, ()) ∧ mp_rN μ a (p + e) (if e = 0 then 1 else 0) j x (mp_v t p e)) (N := e) (fun q a hI => by
      obtain ⟨iP, i4⟩ := hI
      obtain ⟨i1, i2, i3, i5⟩ := id iP
      have hj' : a.1 0 18 18 = nI j := by rw [i2 18 (by omega) (by omega)]; exact hj
      have eJ := mp_J69 (v := mp_v t p e) (e := e) i5 hj' hj12 hx (by omega)
      refine ⟨_, ?_, mp_rN_of iP⟩
      show f_X10_number_L11 (q + 1) a.1 (nI x) (nI d) (nI a.2) (nI e) = _
      rw [i4]
      by_cases h : e = d
      · have h1 : d ≤ e := by omega
        simp (discharger := omega) only [f_X10_number_L11, nI_add, mt_mul, nI_clamp, nI_leI, nI_ltI, nI_eq, mt_in_t, mt_b1, mt_b2, mt_b3, mt_b4, mt_l, mt_g, ↓reduceIte, Nat.reduceEqDiff, Nat.reduceLeDiff, ml_0, ml_1, ml_2, ml_3, ml_4, ml_5, ml_6, ml_7, ml_8, ml_9, ml_10, ml_11, ml_12, ml_13, ml_14, ml_16, ml_31, ml_32, ml_40, ml_42, ml_48, ml_50, ml_57, ml_59, ml_60, ml_63, ml_98, ml_100, ml_103, ml_104, ml_105, ml_106, ml_107, ml_108, ml_109, ml_110, ml_111, ml_112, ml_113, ml_114, ml_115, ml_120, ml_127, ml_176, ml_180, ml_200, ml_254, ml_255, ml_256, ml_300, ml_728, ml_832, ml_65536, h1, i5, eJ]
      · have h1 : ¬ d ≤ e := by omega
        have T' : mp_rT t n a.1 := mp_rT_k hT (i2 17 (by omega) (by omega)) (i1 0 23 (by omega))
        have eh := mp_here0 hn T' (hle e (Nat.le_refl e)) i3
        have e0 := mp_rD0 (μ := a.1) ht (q3 (by omega))
        simp (discharger := omega) only [f_X10_number_L11, nI_add, mt_mul, nI_clamp, nI_leI, nI_ltI, nI_eq, mt_in_t, mt_b1, mt_b2, mt_b3, mt_b4, mt_l, mt_g, ↓reduceIte, Nat.reduceEqDiff, Nat.reduceLeDiff, ml_0, ml_1, ml_2, ml_3, ml_4, ml_5, ml_6, ml_7, ml_8, ml_9, ml_10, ml_11, ml_12, ml_13, ml_14, ml_16, ml_31, ml_32, ml_40, ml_42, ml_48, ml_50, ml_57, ml_59, ml_60, ml_63, ml_98, ml_100, ml_103, ml_104, ml_105, ml_106, ml_107, ml_108, ml_109, ml_110, ml_111, ml_112, ml_113, ml_114, ml_115, ml_120, ml_127, ml_176, ml_180, ml_200, ml_254, ml_255, ml_256, ml_300, ml_728, ml_832, ml_65536, h1, i5, eh, e0, eJ]) (fun q a i hi hI => Or.inl (by
      obtain ⟨⟨i1, i2, i3, i5⟩, i4⟩ := hI
      have hd1 := q2 i hi
      have T' : mp_rT t n a.1 := mp_rT_k hT (i2 17 (by omega) (by omega)) (i1 0 23 (by omega))
      have eh := mp_here0 hn T' (hle i (by omega)) i3
      have em : mp_h t n (p + i) = t (p + i) := if_pos hd1.1
      rw [em] at eh
      have h1 : ¬ d ≤ i := by omega
      have h5 : ¬ t (p + i) < 48 := by have := hd1.2.1; omega
      have h6 : ¬ 57 < t (p + i) := by have := hd1.2.2; omega
      have hb := ht _ hd1.1
      have h48 : nI (10 * mp_v t p i + t (p + i)) - nI 48 = nI (10 * mp_v t p i + (t (p + i) - 48)) := by
        rw [mt_sub (by omega)]
        congr 1
        omega
      have e0 : f_X10_in a.1 (nI (t (p + i))) (nI 48) (nI 57) = some (nI 1) := by
        simp (discharger := omega) only [f_X10_in, nI_add, mt_mul, nI_clamp, nI_leI, nI_ltI, nI_eq, mt_in_t, mt_b1, mt_b2, mt_b3, mt_b4, mt_l, mt_g, ↓reduceIte, Nat.reduceEqDiff, Nat.reduceLeDiff, ml_0, ml_1, ml_2, ml_3, ml_4, ml_5, ml_6, ml_7, ml_8, ml_9, ml_10, ml_11, ml_12, ml_13, ml_14, ml_16, ml_31, ml_32, ml_40, ml_42, ml_48, ml_50, ml_57, ml_59, ml_60, ml_63, ml_98, ml_100, ml_103, ml_104, ml_105, ml_106, ml_107, ml_108, ml_109, ml_110, ml_111, ml_112, ml_113, ml_114, ml_115, ml_120, ml_127, ml_176, ml_180, ml_200, ml_254, ml_255, ml_256, ml_300, ml_728, ml_832, ml_65536, h5, h6]
      refine ⟨(fw_u a.1 0 18 16 (nI (p + i + 1)), 10 * mp_v t p i + (t (p + i) - 48)), ⟨⟨fun j f q => ?_, fun r q1 q2 => ?_, (mt_uy rfl : fw_u a.1 0 18 16 (nI (p + i + 1)) 0 18 16 = nI (p + i + 1)), ?_⟩, rfl⟩, ?_⟩
      · show fw_u a.1 0 18 16 (nI (p + i + 1)) j f = _
        rw [fw_u_o (by omega), i1 j f q]
      · show fw_u a.1 0 18 16 (nI (p + i + 1)) 0 18 r = _
        rw [mt_un (by omega), i2 r q1 q2]
      · show fw_u a.1 0 18 16 (nI (p + i + 1)) 0 18 19 = _
        rw [mt_un (by omega), i5]
      · show f_X10_number_L11 (q + 1) a.1 (nI x) (nI d) (nI a.2) (nI i) = f_X10_number_L11 q (fw_u a.1 0 18 16 (nI (p + i + 1))) (nI x) (nI d) (nI (10 * mp_v t p i + (t (p + i) - 48))) (nI (i + 1))
        rw [i4]
        simp (discharger := omega) only [f_X10_number_L11, nI_add, mt_mul, nI_clamp, nI_leI, nI_ltI, nI_eq, mt_in_t, mt_b1, mt_b2, mt_b3, mt_b4, mt_l, mt_g, ↓reduceIte, Nat.reduceEqDiff, Nat.reduceLeDiff, ml_0, ml_1, ml_2, ml_3, ml_4, ml_5, ml_6, ml_7, ml_8, ml_9, ml_10, ml_11, ml_12, ml_13, ml_14, ml_16, ml_31, ml_32, ml_40, ml_42, ml_48, ml_50, ml_57, ml_59, ml_60, ml_63, ml_98, ml_100, ml_103, ml_104, ml_105, ml_106, ml_107, ml_108, ml_109, ml_110, ml_111, ml_112, ml_113, ml_114, ml_115, ml_120, ml_127, ml_176, ml_180, ml_200, ml_254, ml_255, ml_256, ml_300, ml_728, ml_832, ml_65536, h1, i5, eh, e0, i3, h48])) e 1000 (μ, 0) 0 (by omega) (by omega) ⟨⟨fun _ _ _ => rfl, fun _ _ _ => rfl, hp, h9⟩, rfl⟩
  exact key
/-! a blank, and a number of at most d digits -/
theorem mp_acc1 {c : Nat} (hn : n ≤ 60) (hc : c < 65536) (hT : mp_cT t n μ) (hp : μ 0 13 2 = nI p) (h : p < n ∧ t p = c) : f_X1_accept μ (nI c) = some (fw_u μ 0 13 2 (nI (p + 1)), nI 1) := by
  have e1 := hT.1
  have e2 := hT.2 p h.1
  rw [h.2] at e2
  have h1 := h.1
  have h4 : ¬ n ≤ p := by omega
  simp (discharger := omega) only [f_X1_accept, nI_add, mt_mul, nI_clamp, nI_leI, nI_ltI, nI_eq, mt_in_t, mt_b1, mt_b2, mt_b3, mt_b4, mt_l, mt_g, ↓reduceIte, Nat.reduceEqDiff, Nat.reduceLeDiff, ml_0, ml_1, ml_2, ml_3, ml_4, ml_5, ml_6, ml_7, ml_8, ml_9, ml_10, ml_11, ml_12, ml_13, ml_14, ml_16, ml_31, ml_32, ml_40, ml_42, ml_48, ml_50, ml_57, ml_59, ml_60, ml_63, ml_98, ml_100, ml_103, ml_104, ml_105, ml_106, ml_107, ml_108, ml_109, ml_110, ml_111, ml_112, ml_113, ml_114, ml_115, ml_120, ml_127, ml_176, ml_180, ml_200, ml_254, ml_255, ml_256, ml_300, ml_728, ml_832, ml_65536, e1, e2, hp, h4]
theorem mp_acc0 {c : Nat} (hn : n ≤ 60) (ht : ∀ i, i < n → t i < 65536) (hc : c < 65536) (hT : mp_cT t n μ) (hpn : p ≤ n) (hp : μ 0 13 2 = nI p) (h : ¬ (p < n ∧ t p = c)) : f_X1_accept μ (nI c) = some (μ, nI 0) := by
  have e1 := hT.1
  by_cases h1 : p < n
  · have e2 := hT.2 p h1
    have b := ht p h1
    have h4 : ¬ n ≤ p := by omega
    have h5 : ¬ t p = c := fun z => h ⟨h1, z⟩
    simp (discharger := omega) only [f_X1_accept, nI_add, mt_mul, nI_clamp, nI_leI, nI_ltI, nI_eq, mt_in_t, mt_b1, mt_b2, mt_b3, mt_b4, mt_l, mt_g, ↓reduceIte, Nat.reduceEqDiff, Nat.reduceLeDiff, ml_0, ml_1, ml_2, ml_3, ml_4, ml_5, ml_6, ml_7, ml_8, ml_9, ml_10, ml_11, ml_12, ml_13, ml_14, ml_16, ml_31, ml_32, ml_40, ml_42, ml_48, ml_50, ml_57, ml_59, ml_60, ml_63, ml_98, ml_100, ml_103, ml_104, ml_105, ml_106, ml_107, ml_108, ml_109, ml_110, ml_111, ml_112, ml_113, ml_114, ml_115, ml_120, ml_127, ml_176, ml_180, ml_200, ml_254, ml_255, ml_256, ml_300, ml_728, ml_832, ml_65536, e1, e2, hp, h4, h5]
  · have h4 : n ≤ p := by omega
    simp (discharger := omega) only [f_X1_accept, nI_add, mt_mul, nI_clamp, nI_leI, nI_ltI, nI_eq, mt_in_t, mt_b1, mt_b2, mt_b3, mt_b4, mt_l, mt_g, ↓reduceIte, Nat.reduceEqDiff, Nat.reduceLeDiff, ml_0, ml_1, ml_2, ml_3, ml_4, ml_5, ml_6, ml_7, ml_8, ml_9, ml_10, ml_11, ml_12, ml_13, ml_14, ml_16, ml_31, ml_32, ml_40, ml_42, ml_48, ml_50, ml_57, ml_59, ml_60, ml_63, ml_98, ml_100, ml_103, ml_104, ml_105, ml_106, ml_107, ml_108, ml_109, ml_110, ml_111, ml_112, ml_113, ml_114, ml_115, ml_120, ml_127, ml_176, ml_180, ml_200, ml_254, ml_255, ml_256, ml_300, ml_728, ml_832, ml_65536, e1, hp, h4]
/-- both sides at a number: b says whether something failed before -/
def mp_S (t : Nat → Nat) (n q b d q' b' v : Nat) : Prop := b' < 2 ∧ v < 1000 ∧ q ≤ q' ∧ q' ≤ n ∧ (b' = 0 → b = 0 ∧ (d ≠ 0 → q + 2 ≤ q')) ∧ (b = 1 → q' = q ∧ b' = 1) ∧ (b = 0 → ∀ μ, mp_cT t n μ → μ 0 13 2 = nI q → ∃ a, f_X1_readNumber μ (nI d) = some (a, if b' = 0 then nI v else nI 4294967295) ∧ mp_cP μ a q') ∧ (d ≠ 0 → ∀ μ j x, j < 12 → x ≤ 3 → mp_rT t n μ → μ 0 18 16 = nI q → μ 0 18 18 = nI j → μ 0 18 19 = nI b → ∃ a, f_X10_number μ (nI x) (nI d) = some (a, ()) ∧ mp_rN μ a q' b' j x v) ∧ (d = 0 → q' = q ∧ b' = b)
theorem mp_rP0 {q b : Nat} (h1 : μ 0 18 16 = nI q) (h2 : μ 0 18 19 = nI b) : mp_rP μ μ q b := ⟨fun _ _ _ => rfl, fun _ _ _ => rfl, h1, h2⟩
theorem mp_rN_t {a a' : fw_M} {q b q' b' j x v : Nat} (h : mp_rP μ a q b) (h' : mp_rN a a' q' b' j x v) : mp_rN μ a' q' b' j x v := by
  obtain ⟨i1, i2, i3, i4⟩ := h
  obtain ⟨k1, k2, k3, k4, k5, k6⟩ := h'
  exact ⟨fun j' f z => by rw [k1 j' f z, i1 j' f (by omega)], fun i z1 z2 => by rw [k2 i z1 z2, i2 i z1 z2], k3, k4, k5, fun i z => by rw [k6 i z, i1 0 24 (by omega)]⟩
theorem mp_st (hn : n ≤ 60) (ht : ∀ i, i < n → t i < 65536) {q b d : Nat} (hqn : q ≤ n) (hb : b < 2) (hd : d ≤ 3) : ∃ q' b' v, mp_S t n q b d q' b' v := by
  have hb2 : b = 1 ∨ b = 0 := by omega
  rcases hb2 with rfl | rfl
  · refine ⟨q, 1, 0, by decide, by decide, Nat.le_refl q, hqn, fun z => absurd z (by decide), fun _ => ⟨rfl, rfl⟩, fun z => absurd z (by decide), fun _ μ j x hj hx hT h1 h2 h3 => ⟨_, ?_, mp_rN_of (mp_rP0 h1 h3)⟩, fun _ => ⟨rfl, rfl⟩⟩
    have e1 : f_X10_says μ 6 = some (μ, ()) := mp_says1 (m := 999) (by decide) h3
    have e2 : f_X10_number_L11 1000 μ (nI x) (nI d) (nI 0) (nI 0) = some (fw_u (fw_u μ 0 18 19 (nI 1)) 0 24 (4 * j + x) (nI 0), ()) := mp_L11_1 (m := 999) h3 h2 hj hx
    simp (discharger := omega) only [f_X10_number, nI_add, mt_mul, nI_clamp, nI_leI, nI_ltI, nI_eq, mt_in_t, mt_b1, mt_b2, mt_b3, mt_b4, mt_l, mt_g, ↓reduceIte, Nat.reduceEqDiff, Nat.reduceLeDiff, ml_0, ml_1, ml_2, ml_3, ml_4, ml_5, ml_6, ml_7, ml_8, ml_9, ml_10, ml_11, ml_12, ml_13, ml_14, ml_16, ml_31, ml_32, ml_40, ml_42, ml_48, ml_50, ml_57, ml_59, ml_60, ml_63, ml_98, ml_100, ml_103, ml_104, ml_105, ml_106, ml_107, ml_108, ml_109, ml_110, ml_111, ml_112, ml_113, ml_114, ml_115, ml_120, ml_127, ml_176, ml_180, ml_200, ml_254, ml_255, ml_256, ml_300, ml_728, ml_832, ml_65536, e1, e2]
  · by_cases hd0 : d = 0
    · subst hd0
      refine ⟨q, 0, 0, by decide, by decide, Nat.le_refl q, hqn, fun _ => ⟨rfl, fun z => absurd rfl z⟩, fun z => absurd z (by decide), fun _ μ hT h1 => ⟨μ, ?_, fun _ _ _ => rfl, fun _ _ => rfl, h1⟩, fun z => absurd rfl z, fun _ => ⟨rfl, rfl⟩⟩
      simp (discharger := omega) only [f_X1_readNumber, nI_add, mt_mul, nI_clamp, nI_leI, nI_ltI, nI_eq, mt_in_t, mt_b1, mt_b2, mt_b3, mt_b4, mt_l, mt_g, ↓reduceIte, Nat.reduceEqDiff, Nat.reduceLeDiff, ml_0, ml_1, ml_2, ml_3, ml_4, ml_5, ml_6, ml_7, ml_8, ml_9, ml_10, ml_11, ml_12, ml_13, ml_14, ml_16, ml_31, ml_32, ml_40, ml_42, ml_48, ml_50, ml_57, ml_59, ml_60, ml_63, ml_98, ml_100, ml_103, ml_104, ml_105, ml_106, ml_107, ml_108, ml_109, ml_110, ml_111, ml_112, ml_113, ml_114, ml_115, ml_120, ml_127, ml_176, ml_180, ml_200, ml_254, ml_255, ml_256, ml_300, ml_728, ml_832, ml_65536]
    · by_cases hB : q < n ∧ t q = 32
      · have hq1 : q + 1 ≤ n := hB.1
        obtain ⟨e, he⟩ := mp_ex (fun i => mp_d t n (q + 1 + i)) d
        have heq : mp_dq t n (q + 1) d e := he
        have v3 := mp_v_lt3 hd heq
        have hle : q + 1 + e ≤ n := by
          by_cases y : e = 0
          · omega
          · have := (heq.2.1 (e - 1) (by omega)).1
            omega
        have m6 : mp_q t n q 6 1 := ⟨by decide, fun i hi => by
          have : i = 0 := by omega
          subst this
          exact hB, fun z => absurd z (by decide)⟩
        refine ⟨q + 1 + e, (if e = 0 then 1 else 0), mp_v t (q + 1) e, by split <;> decide, v3, by omega, hle, fun z => ⟨rfl, fun _ => ?_⟩, fun z => absurd z (by decide), fun _ μ hT h1 => ?_, fun _ μ j x hj hx hT h1 h2 h3 => ?_, fun z => absurd z hd0⟩
        · by_cases y : e = 0
          · rw [if_pos y] at z
            cases z
          · omega
        · have e1 := mp_acc1 (c := 32) hn (by decide) hT h1 hB
          have T' : mp_cT t n (fw_u μ 0 13 2 (nI (q + 1))) := mp_cT_k hT (mt_un (by omega)) (fw_u_o (by omega))
          by_cases y : e = 0
          · subst y
            have e2 := mp_isD0 hn ht T' hq1 (mt_uy rfl) (heq.2.2 (by omega))
            refine ⟨fw_u μ 0 13 2 (nI (q + 1)), ?_, fun j f z => fw_u_o (by omega), fun i z => mt_un (by omega), mt_uy rfl⟩
            simp (discharger := omega) only [f_X1_readNumber, nI_add, mt_mul, nI_clamp, nI_leI, nI_ltI, nI_eq, mt_in_t, mt_b1, mt_b2, mt_b3, mt_b4, mt_l, mt_g, ↓reduceIte, Nat.reduceEqDiff, Nat.reduceLeDiff, ml_0, ml_1, ml_2, ml_3, ml_4, ml_5, ml_6, ml_7, ml_8, ml_9, ml_10, ml_11, ml_12, ml_13, ml_14, ml_16, ml_31, ml_32, ml_40, ml_42, ml_48, ml_50, ml_57, ml_59, ml_60, ml_63, ml_98, ml_100, ml_103, ml_104, ml_105, ml_106, ml_107, ml_108, ml_109, ml_110, ml_111, ml_112, ml_113, ml_114, ml_115, ml_120, ml_127, ml_176, ml_180, ml_200, ml_254, ml_255, ml_256, ml_300, ml_728, ml_832, ml_65536, hd0, e1, e2, ml_m1, Nat.one_ne_zero]
          · obtain ⟨a, e3, a1, a2, a3⟩ := mp_cdig hn ht T' hq1 (mt_uy rfl) hd heq
            have e2 := mp_isD1 hn T' (mt_uy rfl) (heq.2.1 0 (by omega))
            refine ⟨a, ?_, fun j f z => by rw [a1 j f z, fw_u_o (by omega)], fun i z => by rw [a2 i z, mt_un (by omega)], a3⟩
            simp (discharger := omega) only [f_X1_readNumber, nI_add, mt_mul, nI_clamp, nI_leI, nI_ltI, nI_eq, mt_in_t, mt_b1, mt_b2, mt_b3, mt_b4, mt_l, mt_g, ↓reduceIte, Nat.reduceEqDiff, Nat.reduceLeDiff, ml_0, ml_1, ml_2, ml_3, ml_4, ml_5, ml_6, ml_7, ml_8, ml_9, ml_10, ml_11, ml_12, ml_13, ml_14, ml_16, ml_31, ml_32, ml_40, ml_42, ml_48, ml_50, ml_57, ml_59, ml_60, ml_63, ml_98, ml_100, ml_103, ml_104, ml_105, ml_106, ml_107, ml_108, ml_109, ml_110, ml_111, ml_112, ml_113, ml_114, ml_115, ml_120, ml_127, ml_176, ml_180, ml_200, ml_254, ml_255, ml_256, ml_300, ml_728, ml_832, ml_65536, hd0, e1, e2, e3, y]
        · obtain ⟨a, e1, P1⟩ := mp_says hn ht hT hqn h1 h3 (by decide) m6
          have hl : (if 1 = mp_l 6 then 0 else 1) = 0 := by decide
          rw [hl] at P1
          obtain ⟨i1, i2, i3, i4⟩ := id P1
          obtain ⟨a', e2, N2⟩ := mp_rdig hn ht (mp_rT_k hT (i2 17 (by omega) (by omega)) (i1 0 23 (by omega))) hq1 i3 i4 (j := j) (x := x) (by rw [i2 18 (by omega) (by omega)]; exact h2) hj hx hd heq
          refine ⟨a', ?_, mp_rN_t P1 N2⟩
          simp (discharger := omega) only [f_X10_number, nI_add, mt_mul, nI_clamp, nI_leI, nI_ltI, nI_eq, mt_in_t, mt_b1, mt_b2, mt_b3, mt_b4, mt_l, mt_g, ↓reduceIte, Nat.reduceEqDiff, Nat.reduceLeDiff, ml_0, ml_1, ml_2, ml_3, ml_4, ml_5, ml_6, ml_7, ml_8, ml_9, ml_10, ml_11, ml_12, ml_13, ml_14, ml_16, ml_31, ml_32, ml_40, ml_42, ml_48, ml_50, ml_57, ml_59, ml_60, ml_63, ml_98, ml_100, ml_103, ml_104, ml_105, ml_106, ml_107, ml_108, ml_109, ml_110, ml_111, ml_112, ml_113, ml_114, ml_115, ml_120, ml_127, ml_176, ml_180, ml_200, ml_254, ml_255, ml_256, ml_300, ml_728, ml_832, ml_65536, e1, e2]
      · have m6 : mp_q t n q 6 0 := ⟨by decide, fun i hi => absurd hi (Nat.not_lt_zero i), fun _ => hB⟩
        refine ⟨q, 1, 0, by decide, by decide, Nat.le_refl q, hqn, fun z => absurd z (by decide), fun z => absurd z (by decide), fun _ μ hT h1 => ?_, fun _ μ j x hj hx hT h1 h2 h3 => ?_, fun z => absurd z hd0⟩
        · have e1 := mp_acc0 (c := 32) hn ht (by decide) hT hqn h1 hB
          refine ⟨μ, ?_, fun _ _ _ => rfl, fun _ _ => rfl, h1⟩
          simp (discharger := omega) only [f_X1_readNumber, nI_add, mt_mul, nI_clamp, nI_leI, nI_ltI, nI_eq, mt_in_t, mt_b1, mt_b2, mt_b3, mt_b4, mt_l, mt_g, ↓reduceIte, Nat.reduceEqDiff, Nat.reduceLeDiff, ml_0, ml_1, ml_2, ml_3, ml_4, ml_5, ml_6, ml_7, ml_8, ml_9, ml_10, ml_11, ml_12, ml_13, ml_14, ml_16, ml_31, ml_32, ml_40, ml_42, ml_48, ml_50, ml_57, ml_59, ml_60, ml_63, ml_98, ml_100, ml_103, ml_104, ml_105, ml_106, ml_107, ml_108, ml_109, ml_110, ml_111, ml_112, ml_113, ml_114, ml_115, ml_120, ml_127, ml_176, ml_180, ml_200, ml_254, ml_255, ml_256, ml_300, ml_728, ml_832, ml_65536, hd0, e1, ml_m1, Nat.one_ne_zero]
        · obtain ⟨a, e1, P1⟩ := mp_says hn ht hT hqn h1 h3 (by decide) m6
          have hl : (if 0 = mp_l 6 then 0 else 1) = 1 := by decide
          rw [hl] at P1
          obtain ⟨i1, i2, i3, i4⟩ := id P1
          have e2 : f_X10_number_L11 1000 a (nI x) (nI d) (nI 0) (nI 0) = some (fw_u (fw_u a 0 18 19 (nI 1)) 0 24 (4 * j + x) (nI 0), ()) := mp_L11_1 (m := 999) i4 (by rw [i2 18 (by omega) (by omega)]; exact h2) hj hx
          refine ⟨_, ?_, mp_rN_of P1⟩
          simp (discharger := omega) only [f_X10_number, nI_add, mt_mul, nI_clamp, nI_leI, nI_ltI, nI_eq, mt_in_t, mt_b1, mt_b2, mt_b3, mt_b4, mt_l, mt_g, ↓reduceIte, Nat.reduceEqDiff, Nat.reduceLeDiff, ml_0, ml_1, ml_2, ml_3, ml_4, ml_5, ml_6, ml_7, ml_8, ml_9, ml_10, ml_11, ml_12, ml_13, ml_14, ml_16, ml_31, ml_32, ml_40, ml_42, ml_48, ml_50, ml_57, ml_59, ml_60, ml_63, ml_98, ml_100, ml_103, ml_104, ml_105, ml_106, ml_107, ml_108, ml_109, ml_110, ml_111, ml_112, ml_113, ml_114, ml_115, ml_120, ml_127, ml_176, ml_180, ml_200, ml_254, ml_255, ml_256, ml_300, ml_728, ml_832, ml_65536, e1, e2]
end PP
