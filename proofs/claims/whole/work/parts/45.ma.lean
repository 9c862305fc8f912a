/-! the mathematics, 6: copies; prices -/
theorem mt_fr_a {S : Nat → Nat → Bool} {μ a : fw_M} {j f i : Nat} {v : Int32} (h : mt_fr S μ a) (hS : S j f = true) : mt_fr S μ (fw_u a j f i v) := mt_fr_t h (mt_fr_u hS)
theorem mt_un' {μ : fw_M} {j f i : Nat} {v : Int32} {j' f' i' : Nat} (h : j' ≠ j ∨ f' ≠ f ∨ i' ≠ i) : fw_u μ j f i v j' f' i' = μ j' f' i' := by
  rw [mt_ua, if_neg (by omega)]
theorem mt_uj {μ : fw_M} {j f i : Nat} {v : Int32} {j' : Nat} (h : j' ≠ j) : fw_u μ j f i v j' = μ j' := by
  funext f' i'
  rw [mt_ua, if_neg (fun z => h z.1)]
section MK
variable {μ : fw_M} {j : Nat} {σ : Nat → Nat}
theorem mc_copy3 {j0 j1 : Nat} (hne : j1 ≠ j0) (hC : mt_C μ j1 σ) {b : fw_M} (h1 : mt_fr (mt_sC j0) μ b) (h2 : ∀ w, w < 6 → ∀ g, g < σ 0 → b j0 (1 + w) g = nI (σ (4 + 6 * g + w))) (h3 : b j0 0 6 = nI (σ 0)) (h4 : ∀ m, m < 2 → b j0 7 m = nI (σ (2 + m))) : ∃ a, f_X7_copyFrom_L123 j0 j1 1000 b (nI 0) = some (a, ()) ∧ mt_C a j0 σ ∧ mt_fr (mt_sC j0) μ a := by
  have hk : ∀ a, mt_fr (mt_sC j0) μ a → mt_C a j1 σ := fun a ha => mt_C_k hC (fun f _ => ha j1 f (mt_sC_f (Or.inl hne)))
  refine mt_while (L := fun n (a : fw_M) i => f_X7_copyFrom_L123 j0 j1 n a i) (I := fun i a => mt_fr (mt_sC j0) μ a ∧ (∀ f, f < 8 → a j0 f = b j0 f) ∧ ∀ c, c < i → a j0 8 c = nI (σ (100 + c))) (P := fun r => ∃ a, r = some (a, ()) ∧ mt_C a j0 σ ∧ mt_fr (mt_sC j0) μ a) (N := 4) ?_ ?_ 4 1000 b 0 (by omega) (by omega) ⟨h1, fun _ _ => rfl, fun c hc => absurd hc (Nat.not_lt_zero c)⟩
  · intro n a h
    have er := (hk a h.1).2.1
    refine ⟨fw_u a j0 0 9 (nI (σ 1)), ?_, ?_, mt_fr_a h.1 (mt_sC_t (by decide))⟩
    · simp (discharger := omega) only [f_X7_copyFrom_L123, nI_add, mt_mul, nI_clamp, nI_leI, nI_ltI, nI_eq, mt_in_t, mt_b1, mt_b2, mt_b3, mt_b4, mt_l, mt_g, ↓reduceIte, Nat.reduceEqDiff, Nat.reduceLeDiff, ml_0, ml_1, ml_2, ml_3, ml_4, ml_5, ml_6, ml_7, ml_8, ml_9, ml_10, ml_11, ml_12, ml_13, ml_14, ml_16, ml_31, ml_32, ml_40, ml_42, ml_48, ml_50, ml_57, ml_59, ml_60, ml_63, ml_98, ml_100, ml_103, ml_104, ml_105, ml_106, ml_107, ml_108, ml_109, ml_110, ml_111, ml_112, ml_113, ml_114, ml_115, ml_120, ml_127, ml_176, ml_180, ml_200, ml_254, ml_255, ml_256, ml_300, ml_728, ml_832, ml_65536, er, Nat.le_refl]
    · refine mt_C_of ?_ ?_ (fun m hm => ?_) (fun c hc => ?_) (fun w hw g hg => ?_)
      · rw [mt_ua, if_neg (by omega), h.2.1 0 (by decide)]; exact h3
      · rw [mt_ua, if_pos ⟨rfl, rfl, rfl⟩]
      · rw [mt_ua, if_neg (by omega), h.2.1 7 (by decide)]; exact h4 m hm
      · rw [mt_ua, if_neg (by omega)]; exact h.2.2 c hc
      · rw [mt_ua, if_neg (by omega), h.2.1 (1 + w) (by omega)]; exact h2 w hw g hg
  · intro n a i hi h
    have ep := (hk a h.1).2.2.2.1 i hi
    have hi' : ¬ 4 ≤ i := by omega
    left
    refine ⟨fw_u a j0 8 i (nI (σ (100 + i))), ⟨mt_fr_a h.1 (mt_sC_t (by decide)), fun f hf => ?_, fun c hc => ?_⟩, ?_⟩
    · rw [fw_u_o (by omega)]; exact h.2.1 f hf
    · by_cases hci : c = i
      · rw [mt_ua, if_pos ⟨rfl, rfl, hci⟩, hci]
      · rw [mt_ua, if_neg (by omega)]; exact h.2.2 c (by omega)
    · simp (discharger := omega) only [f_X7_copyFrom_L123, nI_add, mt_mul, nI_clamp, nI_leI, nI_ltI, nI_eq, mt_in_t, mt_b1, mt_b2, mt_b3, mt_b4, mt_l, mt_g, ↓reduceIte, Nat.reduceEqDiff, Nat.reduceLeDiff, ml_0, ml_1, ml_2, ml_3, ml_4, ml_5, ml_6, ml_7, ml_8, ml_9, ml_10, ml_11, ml_12, ml_13, ml_14, ml_16, ml_31, ml_32, ml_40, ml_42, ml_48, ml_50, ml_57, ml_59, ml_60, ml_63, ml_98, ml_100, ml_103, ml_104, ml_105, ml_106, ml_107, ml_108, ml_109, ml_110, ml_111, ml_112, ml_113, ml_114, ml_115, ml_120, ml_127, ml_176, ml_180, ml_200, ml_254, ml_255, ml_256, ml_300, ml_728, ml_832, ml_65536, ep, hi', mt_ui]
theorem mc_copy2 {j0 j1 : Nat} (hne : j1 ≠ j0) (hC : mt_C μ j1 σ) {b : fw_M} (h1 : mt_fr (mt_sC j0) μ b) (h2 : ∀ w, w < 6 → ∀ g, g < σ 0 → b j0 (1 + w) g = nI (σ (4 + 6 * g + w))) (h3 : b j0 0 6 = nI (σ 0)) : ∃ a, f_X7_copyFrom_L98 j0 j1 1000 b (nI 0) = some (a, ()) ∧ mt_C a j0 σ ∧ mt_fr (mt_sC j0) μ a := by
  have hk : ∀ a, mt_fr (mt_sC j0) μ a → mt_C a j1 σ := fun a ha => mt_C_k hC (fun f _ => ha j1 f (mt_sC_f (Or.inl hne)))
  refine mt_while (L := fun n (a : fw_M) i => f_X7_copyFrom_L98 j0 j1 n a i) (I := fun i a => mt_fr (mt_sC j0) μ a ∧ (∀ f, f < 7 → a j0 f = b j0 f) ∧ ∀ c, c < i → a j0 7 c = nI (σ (2 + c))) (P := fun r => ∃ a, r = some (a, ()) ∧ mt_C a j0 σ ∧ mt_fr (mt_sC j0) μ a) (N := 2) ?_ ?_ 2 1000 b 0 (by omega) (by omega) ⟨h1, fun _ _ => rfl, fun c hc => absurd hc (Nat.not_lt_zero c)⟩
  · intro n a h
    have k := mc_copy3 hne hC h.1 (fun w hw g hg => by rw [h.2.1 (1 + w) (by omega)]; exact h2 w hw g hg) (by rw [h.2.1 0 (by omega)]; exact h3) (fun m hm => h.2.2 m hm)
    simp (discharger := omega) only [f_X7_copyFrom_L98, nI_add, mt_mul, nI_clamp, nI_leI, nI_ltI, nI_eq, mt_in_t, mt_b1, mt_b2, mt_b3, mt_b4, mt_l, mt_g, ↓reduceIte, Nat.reduceEqDiff, Nat.reduceLeDiff, ml_0, ml_1, ml_2, ml_3, ml_4, ml_5, ml_6, ml_7, ml_8, ml_9, ml_10, ml_11, ml_12, ml_13, ml_14, ml_16, ml_31, ml_32, ml_40, ml_42, ml_48, ml_50, ml_57, ml_59, ml_60, ml_63, ml_98, ml_100, ml_103, ml_104, ml_105, ml_106, ml_107, ml_108, ml_109, ml_110, ml_111, ml_112, ml_113, ml_114, ml_115, ml_120, ml_127, ml_176, ml_180, ml_200, ml_254, ml_255, ml_256, ml_300, ml_728, ml_832, ml_65536, Nat.le_refl]
    exact k
  · intro n a i hi h
    have ep := (hk a h.1).2.2.1 i hi
    have hi' : ¬ 2 ≤ i := by omega
    left
    refine ⟨fw_u a j0 7 i (nI (σ (2 + i))), ⟨mt_fr_a h.1 (mt_sC_t (by decide)), fun f hf => ?_, fun c hc => ?_⟩, ?_⟩
    · rw [fw_u_o (by omega)]; exact h.2.1 f hf
    · by_cases hci : c = i
      · rw [mt_ua, if_pos ⟨rfl, rfl, hci⟩, hci]
      · rw [mt_ua, if_neg (by omega)]; exact h.2.2 c (by omega)
    · simp (discharger := omega) only [f_X7_copyFrom_L98, nI_add, mt_mul, nI_clamp, nI_leI, nI_ltI, nI_eq, mt_in_t, mt_b1, mt_b2, mt_b3, mt_b4, mt_l, mt_g, ↓reduceIte, Nat.reduceEqDiff, Nat.reduceLeDiff, ml_0, ml_1, ml_2, ml_3, ml_4, ml_5, ml_6, ml_7, ml_8, ml_9, ml_10, ml_11, ml_12, ml_13, ml_14, ml_16, ml_31, ml_32, ml_40, ml_42, ml_48, ml_50, ml_57, ml_59, ml_60, ml_63, ml_98, ml_100, ml_103, ml_104, ml_105, ml_106, ml_107, ml_108, ml_109, ml_110, ml_111, ml_112, ml_113, ml_114, ml_115, ml_120, ml_127, ml_176, ml_180, ml_200, ml_254, ml_255, ml_256, ml_300, ml_728, ml_832, ml_65536, ep, hi']
theorem mc_cstep {j0 j1 n i : Nat} {a : fw_M} {v0 v1 v2 v3 v4 v5 : Nat} {N : Nat} (hne : j1 ≠ j0) (cn : a j1 0 6 = nI N) (hi : i < N) (h16 : N ≤ 16) (e0 : a j1 1 i = nI v0) (e1 : a j1 2 i = nI v1) (b1 : v1 < 2) (e2 : a j1 3 i = nI v2) (e3 : a j1 4 i = nI v3) (e4 : a j1 5 i = nI v4) (e5 : a j1 6 i = nI v5) : f_X7_copyFrom_L2 j0 j1 (n + 1) a (nI i) = f_X7_copyFrom_L2 j0 j1 n (fw_u (fw_u (fw_u (fw_u (fw_u (fw_u a j0 1 i (nI v0)) j0 2 i (nI v1)) j0 3 i (nI v2)) j0 4 i (nI v3)) j0 5 i (nI v4)) j0 6 i (nI v5)) (nI (i + 1)) := by
  have hj : ∀ (ν : fw_M) (f i : Nat) (v : Int32), fw_u ν j0 f i v j1 = ν j1 := fun ν f i v => mt_uj hne
  have g : fw_in (nI i) 16 = true := mt_in_t (by omega) (by decide)
  rw [f_X7_copyFrom_L2, cn, if_neg (nI_ge hi (by omega)), g, mt_g, nI_clamp (by omega)]
  simp only [mt_l, hj]
  rw [e0, e1, e2, e3, e4, e5, mt_narb _ b1, show (1 : Int32) = nI 1 from rfl, nI_add]
theorem mc_copyFrom {j0 j1 : Nat} (hne : j1 ≠ j0) (hC : mt_C μ j1 σ) (hok : mt_k σ) : ∃ a, f_X7_copyFrom μ j0 j1 = some (a, ()) ∧ mt_C a j0 σ ∧ mt_fr (mt_sC j0) μ a := by
  have h16 := hok.1
  have hk : ∀ a, mt_fr (mt_sC j0) μ a → mt_C a j1 σ := fun a ha => mt_C_k hC (fun f _ => ha j1 f (mt_sC_f (Or.inl hne)))
  unfold f_X7_copyFrom
  refine mt_while (L := fun n (a : fw_M) i => f_X7_copyFrom_L2 j0 j1 n a i) (I := fun i a => mt_fr (mt_sC j0) μ a ∧ ∀ w, w < 6 → ∀ g, g < i → a j0 (1 + w) g = nI (σ (4 + 6 * g + w))) (P := fun r => ∃ a, r = some (a, ()) ∧ mt_C a j0 σ ∧ mt_fr (mt_sC j0) μ a) (N := σ 0) ?_ ?_ (σ 0) 1000 μ 0 (by omega) (by omega) ⟨mt_fr_r, fun w _ c hc => absurd hc (Nat.not_lt_zero c)⟩
  · intro n a h
    have cn := (hk a h.1).1
    have k := mc_copy2 hne hC (b := fw_u a j0 0 6 (nI (σ 0))) (mt_fr_a h.1 (mt_sC_t (by decide))) (fun w hw g hg => by rw [mt_ua, if_neg (by omega)]; exact h.2 w hw g hg) (by rw [mt_ua, if_pos ⟨rfl, rfl, rfl⟩])
    simp (discharger := omega) only [f_X7_copyFrom_L2, nI_add, mt_mul, nI_clamp, nI_leI, nI_ltI, nI_eq, mt_in_t, mt_b1, mt_b2, mt_b3, mt_b4, mt_l, mt_g, ↓reduceIte, Nat.reduceEqDiff, Nat.reduceLeDiff, ml_0, ml_1, ml_2, ml_3, ml_4, ml_5, ml_6, ml_7, ml_8, ml_9, ml_10, ml_11, ml_12, ml_13, ml_14, ml_16, ml_31, ml_32, ml_40, ml_42, ml_48, ml_50, ml_57, ml_59, ml_60, ml_63, ml_98, ml_100, ml_103, ml_104, ml_105, ml_106, ml_107, ml_108, ml_109, ml_110, ml_111, ml_112, ml_113, ml_114, ml_115, ml_120, ml_127, ml_176, ml_180, ml_200, ml_254, ml_255, ml_256, ml_300, ml_728, ml_832, ml_65536, cn, Nat.le_refl]
    exact k
  · intro n a i hi h
    obtain ⟨cn, -, -, -, c0, c1, c2, c3, c4, c5⟩ := hk a h.1
    have e0 := c0 i hi
    have e1 := c1 i hi
    have e2 := c2 i hi
    have e3 := c3 i hi
    have e4 := c4 i hi
    have e5 := c5 i hi
    have b1 := (hok.2 i hi).2.1
    have hi' : ¬ σ 0 ≤ i := by omega
    have hS : ∀ f, f < 9 → mt_sC j0 j0 f = true := fun f hf => mt_sC_t hf
    have hj : ∀ (ν : fw_M) (f i : Nat) (v : Int32), fw_u ν j0 f i v j1 = ν j1 := fun ν f i v => mt_uj hne
    left
    refine ⟨fw_u (fw_u (fw_u (fw_u (fw_u (fw_u a j0 1 i (nI (σ (4 + 6 * i + 0)))) j0 2 i (nI (σ (4 + 6 * i + 1)))) j0 3 i (nI (σ (4 + 6 * i + 2)))) j0 4 i (nI (σ (4 + 6 * i + 3)))) j0 5 i (nI (σ (4 + 6 * i + 4)))) j0 6 i (nI (σ (4 + 6 * i + 5))), ⟨mt_fr_a (mt_fr_a (mt_fr_a (mt_fr_a (mt_fr_a (mt_fr_a h.1 (hS 1 (by decide))) (hS 2 (by decide))) (hS 3 (by decide))) (hS 4 (by decide))) (hS 5 (by decide))) (hS 6 (by decide)), fun w hw g hg => ?_⟩, ?_⟩
    · have hc : w = 0 ∨ w = 1 ∨ w = 2 ∨ w = 3 ∨ w = 4 ∨ w = 5 := by omega
      by_cases hgi : g = i
      · subst hgi
        rcases hc with rfl | rfl | rfl | rfl | rfl | rfl
        · rw [mt_un' (by omega), mt_un' (by omega), mt_un' (by omega), mt_un' (by omega), mt_un' (by omega), mt_ua, if_pos ⟨rfl, rfl, rfl⟩]
        · rw [mt_un' (by omega), mt_un' (by omega), mt_un' (by omega), mt_un' (by omega), mt_ua, if_pos ⟨rfl, rfl, rfl⟩]
        · rw [mt_un' (by omega), mt_un' (by omega), mt_un' (by omega), mt_ua, if_pos ⟨rfl, rfl, rfl⟩]
        · rw [mt_un' (by omega), mt_un' (by omega), mt_ua, if_pos ⟨rfl, rfl, rfl⟩]
        · rw [mt_un' (by omega), mt_ua, if_pos ⟨rfl, rfl, rfl⟩]
        · rw [mt_ua, if_pos ⟨rfl, rfl, rfl⟩]
      · rw [mt_un' (by omega), mt_un' (by omega), mt_un' (by omega), mt_un' (by omega), mt_un' (by omega), mt_un' (by omega)]
        exact h.2 w hw g (by omega)
    · exact mc_cstep hne cn hi h16 e0 e1 b1 e2 e3 e4 e5
end MK
