/-! the mathematics, 21: one command -/
def mp_code (k : Nat) : Nat := [115, 103, 108, 111, 104, 114].getD k 0
def mp_d0 (k : Nat) : Nat := [1, 1, 2, 2, 1, 1].getD k 0
def mp_d1 (k : Nat) : Nat := [1, 1, 1, 0, 2, 0].getD k 0
def mp_d2 (k : Nat) : Nat := [3, 3, 0, 0, 0, 0].getD k 0
theorem mp_kd : ∀ k, k < 6 → fw_kd 0 k = nI (mp_d0 k) ∧ fw_kd 1 k = nI (mp_d1 k) ∧ fw_kd 2 k = nI (mp_d2 k) := by decide +kernel
theorem mp_db : ∀ k, k < 6 → mp_d0 k ≤ 3 ∧ mp_d1 k ≤ 3 ∧ mp_d2 k ≤ 3 ∧ mp_d0 k ≠ 0 ∧ mp_code k < 128 := by decide +kernel
theorem mp_d2z : ∀ k, k < 6 → ¬ k < 2 → mp_d2 k = 0 := by decide +kernel
theorem mp_d2t : ∀ k, k < 2 → mp_d2 k = 3 ∧ mp_d1 k = 1 := by decide +kernel
theorem mp_cd : ∀ kk, kk < 6 → 2 ≤ kk → ∀ k, k < 6 → k ≠ kk → mp_c k 0 ≠ mp_c kk 0 := by decide +kernel
def mp_g (kk : Nat) (μ : fw_M) : Option (fw_M × Unit) := fw_b2 (f_X10_one μ kk (nI (mp_code kk)) (nI (mp_d0 kk)) (nI (mp_d1 kk))) (fun m _ => if kk < 2 then f_X10_readsOne_J101 m else fw_l (fw_u m 0 18 18 ((m 0 18 18) + (1 : Int32))) (fun m3 => some (m3, ())))
def mp_cQ (μ a : fw_M) (j q : Nat) : Prop := (∀ j' f, ¬ (j' = 0 ∧ f = 13) → ¬ (j' = j ∧ f = 9) → a j' f = μ j' f) ∧ (∀ i, i ≠ 2 → a 0 13 i = μ 0 13 i) ∧ a 0 13 2 = nI q
def mp_rC (μ a : fw_M) (j q b : Nat) : Prop := (∀ j' f, ¬ (j' = 0 ∧ (f = 18 ∨ f = 24)) → a j' f = μ j' f) ∧ (∀ i, i ≠ 16 → i ≠ 19 → a 0 18 i = μ 0 18 i) ∧ a 0 18 16 = nI q ∧ a 0 18 19 = nI b ∧ ∀ i, i < 4 * j → a 0 24 i = μ 0 24 i
def mp_rQ (μ a : fw_M) (j q b : Nat) : Prop := (∀ j' f, ¬ (j' = 0 ∧ (f = 18 ∨ f = 24)) → a j' f = μ j' f) ∧ (∀ i, i ≠ 16 → i ≠ 18 → i ≠ 19 → a 0 18 i = μ 0 18 i) ∧ a 0 18 16 = nI q ∧ a 0 18 18 = nI (j + 1) ∧ a 0 18 19 = nI b ∧ ∀ i, i < 4 * j → a 0 24 i = μ 0 24 i
def mp_row (a : fw_M) (j kk x y z : Nat) : Prop := a 0 24 (4 * j) = nI (mp_code kk) ∧ a 0 24 (4 * j + 1) = nI x ∧ (mp_d1 kk ≠ 0 → a 0 24 (4 * j + 2) = nI y) ∧ (kk < 2 → a 0 24 (4 * j + 3) = nI z)
def mp_crow (a : fw_M) (j kk x y z : Nat) : Prop := a j 9 0 = nI kk ∧ a j 9 1 = nI x ∧ a j 9 2 = nI y ∧ a j 9 3 = nI z
section PQ
variable {t : Nat → Nat} {n p : Nat} {μ : fw_M}
theorem mp_cQ_u {a : fw_M} {j q i : Nat} {v : Int32} (h : mp_cQ μ a j q) : mp_cQ μ (fw_u a j 9 i v) j q := ⟨fun j' f z1 z2 => by rw [fw_u_o (by omega), h.1 j' f z1 z2], fun r z => by rw [mt_un (by omega), h.2.1 r z], by rw [mt_un (by omega)]; exact h.2.2⟩
theorem mp_cQ_p {a a' : fw_M} {j q q' : Nat} (h : mp_cQ μ a j q) (h' : mp_cP a a' q') : mp_cQ μ a' j q' := ⟨fun j' f z1 z2 => by rw [h'.1 j' f z1, h.1 j' f z1 z2], fun r z => by rw [h'.2.1 r z, h.2.1 r z], h'.2.2⟩
theorem mp_cQ_T {a : fw_M} {j q : Nat} (h : mp_cQ μ a j q) (hT : mp_cT t n μ) : mp_cT t n a := mp_cT_k hT (h.2.1 1 (by omega)) (h.1 0 14 (by omega) (by omega))
theorem mp_rC_T {a : fw_M} {j q b : Nat} (h : mp_rC μ a j q b) (hT : mp_rT t n μ) : mp_rT t n a := mp_rT_k hT (h.2.1 17 (by omega) (by omega)) (h.1 0 23 (by omega))
theorem mp_rC_N {a a' : fw_M} {j q b q' b' x v : Nat} (h : mp_rC μ a j q b) (h' : mp_rN a a' q' b' j x v) : mp_rC μ a' j q' b' := ⟨fun j' f z => by rw [h'.1 j' f z, h.1 j' f z], fun i z1 z2 => by rw [h'.2.1 i z1 z2, h.2.1 i z1 z2], h'.2.2.1, h'.2.2.2.1, fun i hi => by rw [h'.2.2.2.2.2 i (by omega), h.2.2.2.2 i hi]⟩
theorem mp_q_le {k s : Nat} (hpn : p ≤ n) (h : mp_q t n p k s) : p + s ≤ n := by
  by_cases y : s = 0
  · omega
  · have := (h.2.1 (s - 1) (by omega)).1
    omega
theorem mp_ckw (hn : n ≤ 60) (ht : ∀ i, i < n → t i < 65536) (hT : mp_cT t n μ) (hpn : p ≤ n) (hp : μ 0 13 2 = nI p) {S : Nat → Nat} (hS : ∀ k, mp_q t n p k (S k)) {kk : Nat} (hkk : kk < 6) (h1 : ∀ k, k < 6 → k ≠ kk → S k < mp_l k) (h2 : ∀ k, k < 6 → S k ≤ S kk) : f_X1_readKeyword μ = some (fw_u μ 0 13 2 (nI (p + S kk)), if S kk = mp_l kk then nI kk else nI 4294967295) := by
  have l5 := mp_l5 kk (by omega)
  have s5 := (hS kk).1
  have key := mt_while (L := fun q (x : Nat) i => f_X1_readKeyword_L4 q μ (nI x) i) (I := fun i x => x ≤ S kk ∧ (kk < i → x = S kk ∧ S kk ≠ mp_l kk)) (P := fun r => r = some (fw_u μ 0 13 2 (nI (p + S kk)), if S kk = mp_l kk then nI kk else nI 4294967295)) (N := 6) (fun q x hI => by
      obtain ⟨hx, hne⟩ := hI.2 hkk
      show f_X1_readKeyword_L4 (q + 1) μ (nI x) (nI 6) = _
      rw [hx, if_neg hne]
      simp (discharger := omega) only [f_X1_readKeyword_L4, nI_add, mt_mul, nI_clamp, nI_leI, nI_ltI, nI_eq, mt_in_t, mt_b1, mt_b2, mt_b3, mt_b4, mt_l, mt_g, ↓reduceIte, Nat.reduceEqDiff, Nat.reduceLeDiff, ml_0, ml_1, ml_2, ml_3, ml_4, ml_5, ml_6, ml_7, ml_8, ml_9, ml_10, ml_11, ml_12, ml_13, ml_14, ml_16, ml_31, ml_32, ml_40, ml_42, ml_48, ml_50, ml_57, ml_59, ml_60, ml_63, ml_98, ml_100, ml_103, ml_104, ml_105, ml_106, ml_107, ml_108, ml_109, ml_110, ml_111, ml_112, ml_113, ml_114, ml_115, ml_120, ml_127, ml_176, ml_180, ml_200, ml_254, ml_255, ml_256, ml_300, ml_728, ml_832, ml_65536, hp, ml_m1, Nat.le_refl]) (fun q x i hi hI => by
      have e := mp_same hn ht hT hpn hp hi (hS i)
      have el := mp_len μ (k := i) (by omega)
      have l5i := mp_l5 i (by omega)
      have s5i := (hS i).1
      have hx := hI.1
      have h6 : ¬ 6 ≤ i := by omega
      by_cases z : S i = mp_l i
      · right
        have hik : i = kk := by
          by_cases y : i = kk
          · exact y
          · have := h1 i hi y
            omega
        subst hik
        show f_X1_readKeyword_L4 (q + 1) μ (nI x) (nI i) = _
        rw [z] at e
        rw [z, if_pos rfl]
        simp (discharger := omega) only [f_X1_readKeyword_L4, nI_add, mt_mul, nI_clamp, nI_leI, nI_ltI, nI_eq, mt_in_t, mt_b1, mt_b2, mt_b3, mt_b4, mt_l, mt_g, ↓reduceIte, Nat.reduceEqDiff, Nat.reduceLeDiff, ml_0, ml_1, ml_2, ml_3, ml_4, ml_5, ml_6, ml_7, ml_8, ml_9, ml_10, ml_11, ml_12, ml_13, ml_14, ml_16, ml_31, ml_32, ml_40, ml_42, ml_48, ml_50, ml_57, ml_59, ml_60, ml_63, ml_98, ml_100, ml_103, ml_104, ml_105, ml_106, ml_107, ml_108, ml_109, ml_110, ml_111, ml_112, ml_113, ml_114, ml_115, ml_120, ml_127, ml_176, ml_180, ml_200, ml_254, ml_255, ml_256, ml_300, ml_728, ml_832, ml_65536, h6, e, el, hp]
      · left
        refine ⟨if x < S i then S i else x, ⟨?_, fun y => ?_⟩, ?_⟩
        · have := h2 i hi
          split <;> omega
        · by_cases w : i = kk
          · subst w
            exact ⟨by split <;> omega, z⟩
          · obtain ⟨y1, y2⟩ := hI.2 (by omega)
            have := h2 i hi
            exact ⟨by split <;> omega, y2⟩
        · show f_X1_readKeyword_L4 (q + 1) μ (nI x) (nI i) = f_X1_readKeyword_L4 q μ (nI (if x < S i then S i else x)) (nI (i + 1))
          by_cases w : x < S i
          · simp (discharger := omega) only [f_X1_readKeyword_L4, nI_add, mt_mul, nI_clamp, nI_leI, nI_ltI, nI_eq, mt_in_t, mt_b1, mt_b2, mt_b3, mt_b4, mt_l, mt_g, ↓reduceIte, Nat.reduceEqDiff, Nat.reduceLeDiff, ml_0, ml_1, ml_2, ml_3, ml_4, ml_5, ml_6, ml_7, ml_8, ml_9, ml_10, ml_11, ml_12, ml_13, ml_14, ml_16, ml_31, ml_32, ml_40, ml_42, ml_48, ml_50, ml_57, ml_59, ml_60, ml_63, ml_98, ml_100, ml_103, ml_104, ml_105, ml_106, ml_107, ml_108, ml_109, ml_110, ml_111, ml_112, ml_113, ml_114, ml_115, ml_120, ml_127, ml_176, ml_180, ml_200, ml_254, ml_255, ml_256, ml_300, ml_728, ml_832, ml_65536, h6, e, el, z, w]
          · simp (discharger := omega) only [f_X1_readKeyword_L4, nI_add, mt_mul, nI_clamp, nI_leI, nI_ltI, nI_eq, mt_in_t, mt_b1, mt_b2, mt_b3, mt_b4, mt_l, mt_g, ↓reduceIte, Nat.reduceEqDiff, Nat.reduceLeDiff, ml_0, ml_1, ml_2, ml_3, ml_4, ml_5, ml_6, ml_7, ml_8, ml_9, ml_10, ml_11, ml_12, ml_13, ml_14, ml_16, ml_31, ml_32, ml_40, ml_42, ml_48, ml_50, ml_57, ml_59, ml_60, ml_63, ml_98, ml_100, ml_103, ml_104, ml_105, ml_106, ml_107, ml_108, ml_109, ml_110, ml_111, ml_112, ml_113, ml_114, ml_115, ml_120, ml_127, ml_176, ml_180, ml_200, ml_254, ml_255, ml_256, ml_300, ml_728, ml_832, ml_65536, h6, e, el, z, w]) 6 1000 0 0 (by omega) (by omega) ⟨Nat.zero_le _, fun y => absurd y (Nat.not_lt_zero _)⟩
  exact key
theorem mp_rkw (hn : n ≤ 60) (hT : mp_rT t n μ) (hpn : p ≤ n) (hp : μ 0 18 16 = nI p) {kk : Nat} (hk : kk = 2 ∨ kk = 3 ∨ kk = 4 ∨ kk = 5) (h : p < n ∧ t p = mp_c kk 0) : f_X10_readsOne μ = mp_g kk μ := by
  have eh := mp_here0 hn hT hpn hp
  have em : mp_h t n p = mp_c kk 0 := (if_pos h.1).trans h.2
  rw [em] at eh
  rcases hk with rfl | rfl | rfl | rfl
  · have eh' : f_X10_here μ (0 : Int32) = some (108 : Int32) := eh
    unfold f_X10_readsOne
    rw [eh', mt_b1, if_neg (by decide), if_neg (by decide), if_neg (by decide), if_neg (by decide), if_pos rfl]
    show _ = fw_b2 (f_X10_one μ 2 (108 : Int32) (2 : Int32) (1 : Int32)) (fun m _ => fw_l (fw_u m 0 18 18 ((m 0 18 18) + (1 : Int32))) (fun m3 => some (m3, ())))
    rfl
  · have eh' : f_X10_here μ (0 : Int32) = some (111 : Int32) := eh
    unfold f_X10_readsOne
    rw [eh', mt_b1, if_neg (by decide), if_neg (by decide), if_neg (by decide), if_neg (by decide), if_neg (by decide), if_neg (by decide), if_neg (by decide), if_pos rfl]
    show _ = fw_b2 (f_X10_one μ 3 (111 : Int32) (2 : Int32) (0 : Int32)) (fun m _ => fw_l (fw_u m 0 18 18 ((m 0 18 18) + (1 : Int32))) (fun m3 => some (m3, ())))
    rfl
  · have eh' : f_X10_here μ (0 : Int32) = some (104 : Int32) := eh
    unfold f_X10_readsOne
    rw [eh', mt_b1, if_pos rfl]
    show _ = fw_b2 (f_X10_one μ 4 (104 : Int32) (1 : Int32) (2 : Int32)) (fun m _ => fw_l (fw_u m 0 18 18 ((m 0 18 18) + (1 : Int32))) (fun m3 => some (m3, ())))
    rfl
  · have eh' : f_X10_here μ (0 : Int32) = some (114 : Int32) := eh
    unfold f_X10_readsOne
    rw [eh', mt_b1, if_neg (by decide), if_neg (by decide), if_neg (by decide), if_neg (by decide), if_neg (by decide), if_neg (by decide), if_neg (by decide), if_neg (by decide), if_neg (by decide), if_neg (by decide), if_pos rfl]
    show _ = fw_b2 (f_X10_one μ 5 (114 : Int32) (1 : Int32) (0 : Int32)) (fun m _ => fw_l (fw_u m 0 18 18 ((m 0 18 18) + (1 : Int32))) (fun m3 => some (m3, ())))
    rfl
theorem mp_rkw0 (hn : n ≤ 60) (ht : ∀ i, i < n → t i < 65536) (hT : mp_rT t n μ) (hpn : p ≤ n) (hp : μ 0 18 16 = nI p) (h : ∀ k, k < 6 → ¬ (p < n ∧ t p = mp_c k 0)) : f_X10_readsOne μ = f_X10_readsOne_J162 μ := by
  have eh := mp_here0 hn hT hpn hp
  have hne : ∀ k, k < 6 → mp_c k 0 < 65536 → ¬ nI (mp_h t n p) = nI (mp_c k 0) := fun k hk hc z => h k hk ((mp_heq ht hc).mp z)
  have n0 : ¬ nI (mp_h t n p) = (115 : Int32) := hne 0 (by decide) (by decide)
  have n2 : ¬ nI (mp_h t n p) = (108 : Int32) := hne 2 (by decide) (by decide)
  have n3 : ¬ nI (mp_h t n p) = (111 : Int32) := hne 3 (by decide) (by decide)
  have n4 : ¬ nI (mp_h t n p) = (104 : Int32) := hne 4 (by decide) (by decide)
  have n5 : ¬ nI (mp_h t n p) = (114 : Int32) := hne 5 (by decide) (by decide)
  clear hne
  generalize nI (mp_h t n p) = r at eh n0 n2 n3 n4 n5
  have eh' : f_X10_here μ (0 : Int32) = some r := eh
  unfold f_X10_readsOne
  rw [eh', mt_b1, if_neg n4, if_neg n2, if_neg n3, if_neg n5, if_neg n0]
  simp only [ite_self]
theorem mp_rkwS (hn : n ≤ 60) (ht : ∀ i, i < n → t i < 65536) (hT : mp_rT t n μ) (hpn : p ≤ n) (hp : μ 0 18 16 = nI p) (h : p < n ∧ t p = 115) : f_X10_readsOne μ = mp_g (if p + 1 < n ∧ t (p + 1) = 104 then 1 else 0) μ := by
  have eh := mp_here0 hn hT hpn hp
  have em : mp_h t n p = 115 := (if_pos h.1).trans h.2
  rw [em] at eh
  have eh' : f_X10_here μ (0 : Int32) = some (115 : Int32) := eh
  have eh1 := mp_here hn hT (x := 1) (by decide) hpn hp
  unfold f_X10_readsOne
  rw [eh', mt_b1, if_neg (by decide), if_neg (by decide), if_neg (by decide), if_neg (by decide), if_neg (by decide), if_neg (by decide), if_neg (by decide), if_neg (by decide), if_neg (by decide), if_neg (by decide), if_neg (by decide), if_pos rfl]
  by_cases hh : p + 1 < n ∧ t (p + 1) = 104
  · have em1 : mp_h t n (p + 1) = 104 := (if_pos hh.1).trans hh.2
    rw [em1] at eh1
    have eh1' : f_X10_here μ (1 : Int32) = some (104 : Int32) := eh1
    rw [if_pos hh, eh1', mt_b1, if_pos rfl]
    show _ = fw_b2 (f_X10_one μ 1 (103 : Int32) (1 : Int32) (1 : Int32)) (fun m _ => f_X10_readsOne_J101 m)
    rfl
  · have n4 : ¬ nI (mp_h t n (p + 1)) = (104 : Int32) := fun z => hh ((mp_heq (c := 104) ht (by decide)).mp z)
    rw [if_neg hh]
    generalize nI (mp_h t n (p + 1)) = r at eh1 n4
    have eh1' : f_X10_here μ (1 : Int32) = some r := eh1
    rw [eh1', mt_b1, if_neg n4]
    show _ = fw_b2 (f_X10_one μ 0 (115 : Int32) (1 : Int32) (1 : Int32)) (fun m _ => f_X10_readsOne_J101 m)
    rfl
def mp_K (t : Nat → Nat) (n p kk s : Nat) : Prop := kk < 6 ∧ mp_q t n p kk s ∧ (∀ μ, mp_cT t n μ → μ 0 13 2 = nI p → f_X1_readKeyword μ = some (fw_u μ 0 13 2 (nI (p + s)), if s = mp_l kk then nI kk else nI 4294967295)) ∧ ((∀ μ, mp_rT t n μ → μ 0 18 16 = nI p → f_X10_readsOne μ = mp_g kk μ) ∨ (s = 0 ∧ ∀ μ, mp_rT t n μ → μ 0 18 16 = nI p → f_X10_readsOne μ = f_X10_readsOne_J162 μ))
theorem mp_kw (hn : n ≤ 60) (ht : ∀ i, i < n → t i < 65536) (hpn : p ≤ n) : ∃ kk s, mp_K t n p kk s := by
  obtain ⟨S, hS⟩ := Classical.skolem.mp (fun k => (mp_ex (fun i => p + i < n ∧ t (p + i) = mp_c k i) (mp_l k) : ∃ s, mp_q t n p k s))
  have zero : ∀ k, ¬ (p < n ∧ t p = mp_c k 0) → S k = 0 := fun k h => by
    by_cases z : S k = 0
    · exact z
    · exact absurd (show p < n ∧ t p = mp_c k 0 from (hS k).2.1 0 (by omega)) h
  have pos : ∀ k, k < 6 → (p < n ∧ t p = mp_c k 0) → 1 ≤ S k := fun k hk h => by
    by_cases z : S k = 0
    · have l5 := mp_l5 k (by omega)
      have := (hS k).2.2 (by omega)
      rw [z] at this
      exact absurd h this
    · omega
  by_cases hA : ∃ kk, (kk = 2 ∨ kk = 3 ∨ kk = 4 ∨ kk = 5) ∧ (p < n ∧ t p = mp_c kk 0)
  · obtain ⟨kk, hk, h⟩ := hA
    have oth : ∀ k, k < 6 → k ≠ kk → S k = 0 := fun k hk' hne => zero k (fun z => mp_cd kk (by omega) (by omega) k hk' hne (z.2.symm.trans h.2))
    refine ⟨kk, S kk, by omega, hS kk, fun μ hT hp => mp_ckw hn ht hT hpn hp hS (by omega) (fun k hk' hne => ?_) (fun k hk' => ?_), Or.inl (fun μ hT hp => mp_rkw hn hT hpn hp hk h)⟩
    · rw [oth k hk' hne]
      have := mp_l3 k hk'
      omega
    · by_cases y : k = kk
      · rw [y]; exact Nat.le_refl _
      · rw [oth k hk' y]; exact Nat.zero_le _
  · have no : ∀ k, k < 6 → 2 ≤ k → ¬ (p < n ∧ t p = mp_c k 0) := fun k hk h2 z => hA ⟨k, by omega, z⟩
    by_cases hB : p < n ∧ t p = 115
    · have p0 : 1 ≤ S 0 := pos 0 (by decide) hB
      have p1 : 1 ≤ S 1 := pos 1 (by decide) hB
      have l3 := mp_l3
      by_cases hh : p + 1 < n ∧ t (p + 1) = 104
      · have s0 : S 0 ≤ 1 := by
          by_cases z : S 0 ≤ 1
          · exact z
          · have y : p + 1 < n ∧ t (p + 1) = 111 := (hS 0).2.1 1 (by omega)
            have := hh.2.symm.trans y.2
            omega
        refine ⟨1, S 1, by decide, hS 1, fun μ hT hp => mp_ckw hn ht hT hpn hp hS (by decide) (fun k hk' hne => ?_) (fun k hk' => ?_), Or.inl (fun μ hT hp => ?_)⟩
        · have := l3 k hk'
          by_cases y : k = 0
          · rw [y] at this ⊢; omega
          · rw [zero k (no k hk' (by omega))]; omega
        · by_cases y : k = 0
          · rw [y]; omega
          · by_cases y1 : k = 1
            · rw [y1]; exact Nat.le_refl _
            · rw [zero k (no k hk' (by omega))]; omega
        · have := mp_rkwS hn ht hT hpn hp hB
          rw [if_pos hh] at this
          exact this
      · have s1 : S 1 ≤ 1 := by
          by_cases z : S 1 ≤ 1
          · exact z
          · exact absurd (show p + 1 < n ∧ t (p + 1) = 104 from (hS 1).2.1 1 (by omega)) hh
        refine ⟨0, S 0, by decide, hS 0, fun μ hT hp => mp_ckw hn ht hT hpn hp hS (by decide) (fun k hk' hne => ?_) (fun k hk' => ?_), Or.inl (fun μ hT hp => ?_)⟩
        · have := l3 k hk'
          by_cases y : k = 1
          · rw [y] at this ⊢; omega
          · rw [zero k (no k hk' (by omega))]; omega
        · by_cases y : k = 1
          · rw [y]; omega
          · by_cases y1 : k = 0
            · rw [y1]; exact Nat.le_refl _
            · rw [zero k (no k hk' (by omega))]; omega
        · have := mp_rkwS hn ht hT hpn hp hB
          rw [if_neg hh] at this
          exact this
    · have no' : ∀ k, k < 6 → ¬ (p < n ∧ t p = mp_c k 0) := fun k hk => by
        by_cases y0 : k = 0
        · subst y0; exact hB
        · by_cases y1 : k = 1
          · subst y1; exact hB
          · exact no k hk (by omega)
      have z0 := zero 0 (no' 0 (by decide))
      refine ⟨0, S 0, by decide, hS 0, fun μ hT hp => mp_ckw hn ht hT hpn hp hS (by decide) (fun k hk' hne => ?_) (fun k hk' => ?_), Or.inr ⟨z0, fun μ hT hp => mp_rkw0 hn ht hT hpn hp no'⟩⟩
      · rw [zero k (no' k hk')]
        have := mp_l3 k hk'
        omega
      · rw [zero k (no' k hk'), z0]
        exact Nat.le_refl _
def mp_C (t : Nat → Nat) (n p q ok kk x y z : Nat) : Prop := ∀ μ j, j < 12 → mp_cT t n μ → μ 0 13 2 = nI p → ∃ a, f_X1_readCommand μ j = some (a, nI ok) ∧ mp_cQ μ a j q ∧ (ok = 1 → mp_crow a j kk x y z)
def mp_R (t : Nat → Nat) (n p q ok kk x y z : Nat) : Prop := ∀ μ j, j < 12 → mp_rT t n μ → μ 0 18 16 = nI p → μ 0 18 18 = nI j → μ 0 18 19 = nI 0 → ∃ a, f_X10_readsOne μ = some (a, ()) ∧ mp_rQ μ a j q (1 - ok) ∧ (ok = 1 → mp_row a j kk x y z)
theorem mp_cv {v b : Nat} (hv : v < 1000) (hb : b < 2) : (nI 0 ≤ (if b = 0 then nI v else nI 4294967295)) ↔ b = 0 := by
  by_cases h : b = 0
  · rw [if_pos h]
    exact ⟨fun _ => h, fun _ => nI_le (Nat.zero_le v) (by omega)⟩
  · rw [if_neg h]
    exact ⟨fun z => absurd z mt_neg2, fun z => absurd z h⟩
theorem mp_ltle {x : Int32} : x < nI 0 ↔ ¬ nI 0 ≤ x := by
  rw [Int32.lt_iff_toInt_lt, Int32.le_iff_toInt_le]
  omega
theorem mp_cmdC (hn : n ≤ 60) {kk s q1 b1 v1 q2 b2 v2 q3 b3 v3 : Nat} (hpn : p ≤ n) (hK : mp_K t n p kk s) (S1 : mp_S t n (p + s) (if s = mp_l kk then 0 else 1) (mp_d0 kk) q1 b1 v1) (S2 : mp_S t n q1 b1 (mp_d1 kk) q2 b2 v2) (S3 : mp_S t n q2 b2 (mp_d2 kk) q3 b3 v3) : mp_C t n p q3 (1 - b3) kk v1 v2 v3 := by
  intro μ j hj hT hp
  obtain ⟨hkk, hq, hc, -⟩ := hK
  have ek := hc μ hT hp
  obtain ⟨k0, k1, k2⟩ := mp_kd kk hkk
  obtain ⟨z1, y1, -, -, u1, w1, c1, -, -⟩ := S1
  obtain ⟨z2, y2, -, -, u2, w2, c2, -, -⟩ := S2
  obtain ⟨z3, y3, -, -, u3, w3, c3, -, -⟩ := S3
  have Q1 : mp_cQ μ (fw_u μ 0 13 2 (nI (p + s))) j (p + s) := ⟨fun j' f x1 x2 => fw_u_o (by omega), fun i x => mt_un (by omega), mt_uy rfl⟩
  by_cases hs : s = mp_l kk
  · rw [if_pos hs] at ek
    rw [if_pos hs] at c1
    have Q3 := mp_cQ_u (i := 0) (v := nI kk) Q1
    obtain ⟨a1, e1, P1⟩ := c1 rfl _ (mp_cQ_T Q3 hT) Q3.2.2
    have Q4 := mp_cQ_p Q3 P1
    have Q5 := mp_cQ_u (i := 1) (v := if b1 = 0 then nI v1 else nI 4294967295) Q4
    have r1 := mp_cv y1 z1
    have nk : ¬ kk < 0 := by omega
    by_cases hb1 : b1 = 0
    · have r1' := r1.mpr hb1
      obtain ⟨a2, e2, P2⟩ := c2 hb1 _ (mp_cQ_T Q5 hT) Q5.2.2
      have Q6 := mp_cQ_p Q5 P2
      have Q7 := mp_cQ_u (i := 2) (v := if b2 = 0 then nI v2 else nI 4294967295) Q6
      have r2 := mp_cv y2 z2
      by_cases hb2 : b2 = 0
      · have r2' := r2.mpr hb2
        obtain ⟨a3, e3, P3⟩ := c3 hb2 _ (mp_cQ_T Q7 hT) Q7.2.2
        have Q8 := mp_cQ_p Q7 P3
        have Q9 := mp_cQ_u (i := 3) (v := if b3 = 0 then nI v3 else nI 4294967295) Q8
        have r3 := mp_cv y3 z3
        refine ⟨_, ?_, Q9, fun hok => ?_⟩
        · by_cases hb3 : b3 = 0
          · have r3' := r3.mpr hb3
            have r3'' : ¬ (if b3 = 0 then nI v3 else nI 4294967295) < nI 0 := fun z => mp_ltle.mp z r3'
            rw [show 1 - b3 = 1 by omega]
            unfold f_X1_readCommand
            rw [ek, mt_b2]
            simp (discharger := omega) only [nI_add, mt_mul, nI_clamp, nI_leI, nI_ltI, nI_eq, mt_in_t, mt_b1, mt_b2, mt_b3, mt_b4, mt_l, mt_g, ↓reduceIte, Nat.reduceEqDiff, Nat.reduceLeDiff, ml_0, ml_1, ml_2, ml_3, ml_4, ml_5, ml_6, ml_7, ml_8, ml_9, ml_10, ml_11, ml_12, ml_13, ml_14, ml_16, ml_31, ml_32, ml_40, ml_42, ml_48, ml_50, ml_57, ml_59, ml_60, ml_63, ml_98, ml_100, ml_103, ml_104, ml_105, ml_106, ml_107, ml_108, ml_109, ml_110, ml_111, ml_112, ml_113, ml_114, ml_115, ml_120, ml_127, ml_176, ml_180, ml_200, ml_254, ml_255, ml_256, ml_300, ml_728, ml_832, ml_65536, nk, k0, k1, k2, e1, e2, e3, mt_uy, r1', r2', r3'']
          · have r3' : ¬ nI 0 ≤ (if b3 = 0 then nI v3 else nI 4294967295) := fun z => hb3 (r3.mp z)
            have r3'' := mp_ltle.mpr r3'
            rw [show 1 - b3 = 0 by omega]
            unfold f_X1_readCommand
            rw [ek, mt_b2]
            simp (discharger := omega) only [nI_add, mt_mul, nI_clamp, nI_leI, nI_ltI, nI_eq, mt_in_t, mt_b1, mt_b2, mt_b3, mt_b4, mt_l, mt_g, ↓reduceIte, Nat.reduceEqDiff, Nat.reduceLeDiff, ml_0, ml_1, ml_2, ml_3, ml_4, ml_5, ml_6, ml_7, ml_8, ml_9, ml_10, ml_11, ml_12, ml_13, ml_14, ml_16, ml_31, ml_32, ml_40, ml_42, ml_48, ml_50, ml_57, ml_59, ml_60, ml_63, ml_98, ml_100, ml_103, ml_104, ml_105, ml_106, ml_107, ml_108, ml_109, ml_110, ml_111, ml_112, ml_113, ml_114, ml_115, ml_120, ml_127, ml_176, ml_180, ml_200, ml_254, ml_255, ml_256, ml_300, ml_728, ml_832, ml_65536, nk, k0, k1, k2, e1, e2, e3, mt_uy, r1', r2', r3'']
        · have hb3 : b3 = 0 := by omega
          refine ⟨?_, ?_, ?_, ?_⟩
          · rw [mt_un (by omega), P3.1 j 9 (by omega), mt_un (by omega), P2.1 j 9 (by omega), mt_un (by omega), P1.1 j 9 (by omega), mt_uy rfl]
          · rw [mt_un (by omega), P3.1 j 9 (by omega), mt_un (by omega), P2.1 j 9 (by omega), mt_uy rfl, if_pos hb1]
          · rw [mt_un (by omega), P3.1 j 9 (by omega), mt_uy rfl, if_pos hb2]
          · rw [mt_uy rfl, if_pos hb3]
      · have r2' : ¬ nI 0 ≤ (if b2 = 0 then nI v2 else nI 4294967295) := fun z => hb2 (r2.mp z)
        have h3 := w3 (by omega)
        rw [← h3.1] at Q7
        refine ⟨_, ?_, Q7, fun hok => absurd hok (by omega)⟩
        rw [show 1 - b3 = 0 by omega]
        unfold f_X1_readCommand
        rw [ek, mt_b2]
        simp (discharger := omega) only [nI_add, mt_mul, nI_clamp, nI_leI, nI_ltI, nI_eq, mt_in_t, mt_b1, mt_b2, mt_b3, mt_b4, mt_l, mt_g, ↓reduceIte, Nat.reduceEqDiff, Nat.reduceLeDiff, ml_0, ml_1, ml_2, ml_3, ml_4, ml_5, ml_6, ml_7, ml_8, ml_9, ml_10, ml_11, ml_12, ml_13, ml_14, ml_16, ml_31, ml_32, ml_40, ml_42, ml_48, ml_50, ml_57, ml_59, ml_60, ml_63, ml_98, ml_100, ml_103, ml_104, ml_105, ml_106, ml_107, ml_108, ml_109, ml_110, ml_111, ml_112, ml_113, ml_114, ml_115, ml_120, ml_127, ml_176, ml_180, ml_200, ml_254, ml_255, ml_256, ml_300, ml_728, ml_832, ml_65536, nk, k0, k1, k2, e1, e2, mt_uy, r1', r2']
    · have r1' : ¬ nI 0 ≤ (if b1 = 0 then nI v1 else nI 4294967295) := fun z => hb1 (r1.mp z)
      have h2 := w2 (by omega)
      have h3 := w3 h2.2
      rw [← h2.1, ← h3.1] at Q5
      refine ⟨_, ?_, Q5, fun hok => absurd hok (by omega)⟩
      rw [show 1 - b3 = 0 by omega]
      unfold f_X1_readCommand
      rw [ek, mt_b2]
      simp (discharger := omega) only [nI_add, mt_mul, nI_clamp, nI_leI, nI_ltI, nI_eq, mt_in_t, mt_b1, mt_b2, mt_b3, mt_b4, mt_l, mt_g, ↓reduceIte, Nat.reduceEqDiff, Nat.reduceLeDiff, ml_0, ml_1, ml_2, ml_3, ml_4, ml_5, ml_6, ml_7, ml_8, ml_9, ml_10, ml_11, ml_12, ml_13, ml_14, ml_16, ml_31, ml_32, ml_40, ml_42, ml_48, ml_50, ml_57, ml_59, ml_60, ml_63, ml_98, ml_100, ml_103, ml_104, ml_105, ml_106, ml_107, ml_108, ml_109, ml_110, ml_111, ml_112, ml_113, ml_114, ml_115, ml_120, ml_127, ml_176, ml_180, ml_200, ml_254, ml_255, ml_256, ml_300, ml_728, ml_832, ml_65536, nk, k0, k1, k2, e1, mt_uy, r1']
  · rw [if_neg hs] at ek
    rw [if_neg hs] at w1
    have h1 := w1 rfl
    have h2 := w2 h1.2
    have h3 := w3 h2.2
    have Q1' : mp_cQ μ (fw_u μ 0 13 2 (nI (p + s))) j q3 := by
      rw [h3.1, h2.1, h1.1]
      exact Q1
    refine ⟨_, ?_, Q1', fun hok => absurd hok (by omega)⟩
    rw [show 1 - b3 = 0 by omega]
    have hm1 : nI 4294967295 < nI 0 := mp_ltle.mpr mt_neg2
    unfold f_X1_readCommand
    rw [ek, mt_b2]
    simp (discharger := omega) only [nI_add, mt_mul, nI_clamp, nI_leI, nI_ltI, nI_eq, mt_in_t, mt_b1, mt_b2, mt_b3, mt_b4, mt_l, mt_g, ↓reduceIte, Nat.reduceEqDiff, Nat.reduceLeDiff, ml_0, ml_1, ml_2, ml_3, ml_4, ml_5, ml_6, ml_7, ml_8, ml_9, ml_10, ml_11, ml_12, ml_13, ml_14, ml_16, ml_31, ml_32, ml_40, ml_42, ml_48, ml_50, ml_57, ml_59, ml_60, ml_63, ml_98, ml_100, ml_103, ml_104, ml_105, ml_106, ml_107, ml_108, ml_109, ml_110, ml_111, ml_112, ml_113, ml_114, ml_115, ml_120, ml_127, ml_176, ml_180, ml_200, ml_254, ml_255, ml_256, ml_300, ml_728, ml_832, ml_65536, hm1]
theorem mp_cmdR (hn : n ≤ 60) (ht : ∀ i, i < n → t i < 65536) {kk s q1 b1 v1 q2 b2 v2 q3 b3 v3 : Nat} (hpn : p ≤ n) (hK : mp_K t n p kk s) (S1 : mp_S t n (p + s) (if s = mp_l kk then 0 else 1) (mp_d0 kk) q1 b1 v1) (S2 : mp_S t n q1 b1 (mp_d1 kk) q2 b2 v2) (S3 : mp_S t n q2 b2 (mp_d2 kk) q3 b3 v3) : mp_R t n p q3 (1 - b3) kk v1 v2 v3 := by
  intro μ j hj hT hp h18 h19
  obtain ⟨hkk, hq, -, hr⟩ := hK
  obtain ⟨z1, y1, -, -, u1, w1, -, c1, t1⟩ := S1
  obtain ⟨z2, y2, -, -, u2, w2, -, c2, t2⟩ := S2
  obtain ⟨z3, y3, -, -, u3, w3, -, c3, t3⟩ := S3
  obtain ⟨d0, d1, d2, dn, dc⟩ := mp_db kk hkk
  rcases hr with hr | ⟨hs0, hr⟩
  · rw [hr μ hT hp]
    have C2 : mp_rC μ (fw_u μ 0 24 (4 * j) (nI (mp_code kk))) j p 0 := ⟨fun j' f x => fw_u_o (by omega), fun i x1 x2 => mt_un (by omega), by rw [mt_un (by omega)]; exact hp, by rw [mt_un (by omega)]; exact h19, fun i hi => mt_un (by omega)⟩
    obtain ⟨a0, e0, P0⟩ := mp_says hn ht (mp_rC_T C2 hT) hpn C2.2.2.1 C2.2.2.2.1 (k := kk) (by omega) hq
    have C3 : mp_rC μ a0 j (p + s) (if s = mp_l kk then 0 else 1) := by
      obtain ⟨i1, i2, i3, i4, i5⟩ := C2
      obtain ⟨k1, k2, k3, k4⟩ := P0
      exact ⟨fun j' f x => by rw [k1 j' f (by omega), i1 j' f x], fun i x1 x2 => by rw [k2 i x1 x2, i2 i x1 x2], k3, k4, fun i hi => by rw [k1 0 24 (by omega), i5 i hi]⟩
    have j3 : a0 0 18 18 = nI j := by rw [C3.2.1 18 (by omega) (by omega)]; exact h18
    obtain ⟨a1, e1, N1⟩ := c1 dn a0 j 1 hj (by decide) (mp_rC_T C3 hT) C3.2.2.1 j3 C3.2.2.2.1
    have C4 := mp_rC_N C3 N1
    have j4 : a1 0 18 18 = nI j := by rw [C4.2.1 18 (by omega) (by omega)]; exact h18
    have code1 : a1 0 24 (4 * j) = nI (mp_code kk) := by rw [N1.2.2.2.2.2 _ (by omega), P0.1 0 24 (by omega), mt_uy rfl]
    have x1 : a1 0 24 (4 * j + 1) = nI v1 := N1.2.2.2.2.1
    -- the second number
    have H2 : ∃ a2, f_X10_one μ kk (nI (mp_code kk)) (nI (mp_d0 kk)) (nI (mp_d1 kk)) = some (a2, ()) ∧ mp_rC μ a2 j q2 b2 ∧ a2 0 24 (4 * j) = nI (mp_code kk) ∧ a2 0 24 (4 * j + 1) = nI v1 ∧ (mp_d1 kk ≠ 0 → a2 0 24 (4 * j + 2) = nI v2) := by
      by_cases hd : mp_d1 kk = 0
      · obtain ⟨t21, t22⟩ := t2 hd
        refine ⟨a1, ?_, by rw [t21, t22]; exact C4, code1, x1, fun z => absurd hd z⟩
        simp (discharger := omega) only [f_X10_one, nI_add, mt_mul, nI_clamp, nI_leI, nI_ltI, nI_eq, mt_in_t, mt_b1, mt_b2, mt_b3, mt_b4, mt_l, mt_g, ↓reduceIte, Nat.reduceEqDiff, Nat.reduceLeDiff, ml_0, ml_1, ml_2, ml_3, ml_4, ml_5, ml_6, ml_7, ml_8, ml_9, ml_10, ml_11, ml_12, ml_13, ml_14, ml_16, ml_31, ml_32, ml_40, ml_42, ml_48, ml_50, ml_57, ml_59, ml_60, ml_63, ml_98, ml_100, ml_103, ml_104, ml_105, ml_106, ml_107, ml_108, ml_109, ml_110, ml_111, ml_112, ml_113, ml_114, ml_115, ml_120, ml_127, ml_176, ml_180, ml_200, ml_254, ml_255, ml_256, ml_300, ml_728, ml_832, ml_65536, h18, e0, e1, hd, Nat.le_refl]
      · obtain ⟨a2, e2, N2⟩ := c2 hd a1 j 2 hj (by decide) (mp_rC_T C4 hT) C4.2.2.1 j4 C4.2.2.2.1
        have hd' : ¬ mp_d1 kk ≤ 0 := by omega
        refine ⟨a2, ?_, mp_rC_N C4 N2, by rw [N2.2.2.2.2.2 _ (by omega)]; exact code1, by rw [N2.2.2.2.2.2 _ (by omega)]; exact x1, fun _ => N2.2.2.2.2.1⟩
        simp (discharger := omega) only [f_X10_one, nI_add, mt_mul, nI_clamp, nI_leI, nI_ltI, nI_eq, mt_in_t, mt_b1, mt_b2, mt_b3, mt_b4, mt_l, mt_g, ↓reduceIte, Nat.reduceEqDiff, Nat.reduceLeDiff, ml_0, ml_1, ml_2, ml_3, ml_4, ml_5, ml_6, ml_7, ml_8, ml_9, ml_10, ml_11, ml_12, ml_13, ml_14, ml_16, ml_31, ml_32, ml_40, ml_42, ml_48, ml_50, ml_57, ml_59, ml_60, ml_63, ml_98, ml_100, ml_103, ml_104, ml_105, ml_106, ml_107, ml_108, ml_109, ml_110, ml_111, ml_112, ml_113, ml_114, ml_115, ml_120, ml_127, ml_176, ml_180, ml_200, ml_254, ml_255, ml_256, ml_300, ml_728, ml_832, ml_65536, h18, e0, e1, e2, hd']
    obtain ⟨a2, e2, C5, code2, x2, x3⟩ := H2
    have j5 : a2 0 18 18 = nI j := by rw [C5.2.1 18 (by omega) (by omega)]; exact h18
    have H3 : ∃ a3, (if kk < 2 then f_X10_readsOne_J101 a2 else fw_l (fw_u a2 0 18 18 ((a2 0 18 18) + (1 : Int32))) (fun m3 => some (m3, ()))) = some (fw_u a3 0 18 18 (nI (j + 1)), ()) ∧ mp_rC μ a3 j q3 b3 ∧ a3 0 24 (4 * j) = nI (mp_code kk) ∧ a3 0 24 (4 * j + 1) = nI v1 ∧ (mp_d1 kk ≠ 0 → a3 0 24 (4 * j + 2) = nI v2) ∧ (kk < 2 → a3 0 24 (4 * j + 3) = nI v3) := by
      by_cases h2 : kk < 2
      · have hd3 := (mp_d2t kk h2).1
        rw [hd3] at c3
        obtain ⟨a3, e3, N3⟩ := c3 (by decide) a2 j 3 hj (by decide) (mp_rC_T C5 hT) C5.2.2.1 j5 C5.2.2.2.1
        have C6 := mp_rC_N C5 N3
        have j6 : a3 0 18 18 = nI j := by rw [C6.2.1 18 (by omega) (by omega)]; exact h18
        refine ⟨a3, ?_, C6, by rw [N3.2.2.2.2.2 _ (by omega)]; exact code2, by rw [N3.2.2.2.2.2 _ (by omega)]; exact x2, fun z => by rw [N3.2.2.2.2.2 _ (by omega)]; exact x3 z, fun _ => N3.2.2.2.2.1⟩
        simp (discharger := omega) only [f_X10_readsOne_J101, nI_add, mt_mul, nI_clamp, nI_leI, nI_ltI, nI_eq, mt_in_t, mt_b1, mt_b2, mt_b3, mt_b4, mt_l, mt_g, ↓reduceIte, Nat.reduceEqDiff, Nat.reduceLeDiff, ml_0, ml_1, ml_2, ml_3, ml_4, ml_5, ml_6, ml_7, ml_8, ml_9, ml_10, ml_11, ml_12, ml_13, ml_14, ml_16, ml_31, ml_32, ml_40, ml_42, ml_48, ml_50, ml_57, ml_59, ml_60, ml_63, ml_98, ml_100, ml_103, ml_104, ml_105, ml_106, ml_107, ml_108, ml_109, ml_110, ml_111, ml_112, ml_113, ml_114, ml_115, ml_120, ml_127, ml_176, ml_180, ml_200, ml_254, ml_255, ml_256, ml_300, ml_728, ml_832, ml_65536, h2, e3, j6]
      · obtain ⟨t31, t32⟩ := t3 (mp_d2z kk hkk h2)
        refine ⟨a2, ?_, by rw [t31, t32]; exact C5, code2, x2, x3, fun z => absurd z h2⟩
        simp (discharger := omega) only [nI_add, mt_mul, nI_clamp, nI_leI, nI_ltI, nI_eq, mt_in_t, mt_b1, mt_b2, mt_b3, mt_b4, mt_l, mt_g, ↓reduceIte, Nat.reduceEqDiff, Nat.reduceLeDiff, ml_0, ml_1, ml_2, ml_3, ml_4, ml_5, ml_6, ml_7, ml_8, ml_9, ml_10, ml_11, ml_12, ml_13, ml_14, ml_16, ml_31, ml_32, ml_40, ml_42, ml_48, ml_50, ml_57, ml_59, ml_60, ml_63, ml_98, ml_100, ml_103, ml_104, ml_105, ml_106, ml_107, ml_108, ml_109, ml_110, ml_111, ml_112, ml_113, ml_114, ml_115, ml_120, ml_127, ml_176, ml_180, ml_200, ml_254, ml_255, ml_256, ml_300, ml_728, ml_832, ml_65536, h2, j5]
    obtain ⟨a3, e3, ⟨i1, i2, i3, i4, i5⟩, code3, x4, x5, x6⟩ := H3
    have hbb : 1 - (1 - b3) = b3 := by omega
    rw [hbb]
    refine ⟨_, by unfold mp_g; rw [e2, mt_b2]; exact e3, ⟨fun j' f z => by rw [fw_u_o (by omega), i1 j' f z], fun i q1 q2 q3 => by rw [mt_un (by omega), i2 i q1 q3], by rw [mt_un (by omega)]; exact i3, mt_uy rfl, by rw [mt_un (by omega)]; exact i4, fun i hi => by rw [mt_un (by omega)]; exact i5 i hi⟩, fun _ => ⟨by rw [mt_un (by omega)]; exact code3, by rw [mt_un (by omega)]; exact x4, fun z => by rw [mt_un (by omega)]; exact x5 z, fun z => by rw [mt_un (by omega)]; exact x6 z⟩⟩
  · rw [hr μ hT hp]
    have l5 := mp_l5 kk (by omega)
    rw [if_neg (show ¬ s = mp_l kk by omega)] at w1
    have h1 := w1 rfl
    have h2 := w2 h1.2
    have h3 := w3 h2.2
    have hq3 : q3 = p := by rw [h3.1, h2.1, h1.1, hs0, Nat.add_zero]
    rw [hq3, h3.2]
    refine ⟨fw_u (fw_u μ 0 18 19 (nI 1)) 0 18 18 (nI (j + 1)), ?_, ⟨fun j' f z => by rw [fw_u_o (by omega), fw_u_o (by omega)], fun i q1 q2 q3 => by rw [mt_un (by omega), mt_un (by omega)], by rw [mt_un (by omega), mt_un (by omega)]; exact hp, mt_uy rfl, by rw [mt_un (by omega), mt_uy rfl], fun i hi => by rw [mt_un (by omega), mt_un (by omega)]⟩, fun z => absurd z (by decide)⟩
    simp (discharger := omega) only [f_X10_readsOne_J162, nI_add, mt_mul, nI_clamp, nI_leI, nI_ltI, nI_eq, mt_in_t, mt_b1, mt_b2, mt_b3, mt_b4, mt_l, mt_g, ↓reduceIte, Nat.reduceEqDiff, Nat.reduceLeDiff, ml_0, ml_1, ml_2, ml_3, ml_4, ml_5, ml_6, ml_7, ml_8, ml_9, ml_10, ml_11, ml_12, ml_13, ml_14, ml_16, ml_31, ml_32, ml_40, ml_42, ml_48, ml_50, ml_57, ml_59, ml_60, ml_63, ml_98, ml_100, ml_103, ml_104, ml_105, ml_106, ml_107, ml_108, ml_109, ml_110, ml_111, ml_112, ml_113, ml_114, ml_115, ml_120, ml_127, ml_176, ml_180, ml_200, ml_254, ml_255, ml_256, ml_300, ml_728, ml_832, ml_65536, mt_un, h18]
theorem mp_cmd (hn : n ≤ 60) (ht : ∀ i, i < n → t i < 65536) (hpn : p ≤ n) : ∃ q ok kk x y z, q ≤ n ∧ ok < 2 ∧ kk < 6 ∧ x < 1000 ∧ y < 1000 ∧ z < 1000 ∧ (ok = 1 → p + 5 ≤ q) ∧ mp_C t n p q ok kk x y z ∧ mp_R t n p q ok kk x y z := by
  obtain ⟨kk, s, hK⟩ := mp_kw hn ht hpn
  have hkk := hK.1
  obtain ⟨d0, d1, d2, dn, -⟩ := mp_db kk hkk
  have hs := mp_q_le hpn hK.2.1
  obtain ⟨q1, b1, v1, S1⟩ := mp_st hn ht (b := if s = mp_l kk then 0 else 1) hs (by split <;> decide) d0
  obtain ⟨q2, b2, v2, S2⟩ := mp_st hn ht S1.2.2.2.1 S1.1 d1
  obtain ⟨q3, b3, v3, S3⟩ := mp_st hn ht S2.2.2.2.1 S2.1 d2
  refine ⟨q3, 1 - b3, kk, v1, v2, v3, S3.2.2.2.1, by omega, hkk, S1.2.1, S2.2.1, S3.2.1, fun hok => ?_, mp_cmdC hn hpn hK S1 S2 S3, mp_cmdR hn ht hpn hK S1 S2 S3⟩
  have g3 := S3.2.2.2.2.1 (by omega)
  have g2 := S2.2.2.2.2.1 g3.1
  have g1 := S1.2.2.2.2.1 g2.1
  have l3 := mp_l3 kk hkk
  have m1 := g1.2 dn
  have m2 := S2.2.2.1
  have m3 := S3.2.2.1
  have hs2 : s = mp_l kk := by
    by_cases y : s = mp_l kk
    · exact y
    · rw [if_neg y] at g1
      exact absurd g1.1 (by decide)
  omega
end PQ
