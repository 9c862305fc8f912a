/-! the mathematics, 22: a whole text -/
def mp_cX (μ a : fw_M) (j q : Nat) : Prop := (∀ j' f, ¬ (j' = 0 ∧ f = 13) → ¬ (f = 9 ∧ j ≤ j' ∧ j' < 12) → a j' f = μ j' f) ∧ (∀ i, i ≠ 2 → i ≠ 4 → a 0 13 i = μ 0 13 i) ∧ a 0 13 2 = nI q
def mp_rX (μ a : fw_M) (j : Nat) : Prop := (∀ j' f, ¬ (j' = 0 ∧ (f = 18 ∨ f = 24)) → a j' f = μ j' f) ∧ (∀ i, i ≠ 16 → i ≠ 18 → i ≠ 19 → a 0 18 i = μ 0 18 i) ∧ ∀ i, i < 4 * j → a 0 24 i = μ 0 24 i
def mp_err (a : fw_M) (q : Nat) : fw_M := fw_u (fw_u a 0 18 13 (nI q)) 0 18 0 (nI 1)
def mp_PC (t : Nat → Nat) (n p j q ok N : Nat) (K X Y Z : Nat → Nat) : Prop := ∀ m μ, 12 < m + j → mp_cT t n μ → μ 0 13 2 = nI p → μ 0 13 4 = nI j → ∃ a, f_X1_parse_L12 m μ (nI j) = some (a, nI ok) ∧ mp_cX μ a j q ∧ (ok = 1 → a 0 13 4 = nI N ∧ ∀ i, j ≤ i → i < N → mp_crow a i (K i) (X i) (Y i) (Z i))
def mp_PR (t : Nat → Nat) (n p j q ok N : Nat) (K X Y Z : Nat → Nat) : Prop := ∀ m μ, 12 < m + j → mp_rT t n μ → μ 0 18 16 = nI p → μ 0 18 18 = nI j → μ 0 18 19 = nI 0 → ∃ a, fw_b2 (f_X10_readsOne μ) (fun m7 _ => f_X10_runCommands_L36 m m7) = (if ok = 1 then f_X10_runCommands_L104 1000 a (nI 0) else some (mp_err a q, nI 0)) ∧ mp_rX μ a j ∧ (ok = 1 → a 0 18 18 = nI N ∧ ∀ i, j ≤ i → i < N → mp_row a i (K i) (X i) (Y i) (Z i))
section PT
variable {t : Nat → Nat} {n : Nat}
theorem mp_J70_1 {μ : fw_M} {q : Nat} (h9 : μ 0 18 19 = nI 1) (h : μ 0 18 16 = nI q) : f_X10_runCommands_J70 μ = some (mp_err μ q, nI 0) := by
  simp (discharger := omega) only [f_X10_runCommands_J70, f_X10_fails, mp_err, nI_add, mt_mul, nI_clamp, nI_leI, nI_ltI, nI_eq, mt_in_t, mt_b1, mt_b2, mt_b3, mt_b4, mt_l, mt_g, ↓reduceIte, Nat.reduceEqDiff, Nat.reduceLeDiff, ml_0, ml_1, ml_2, ml_3, ml_4, ml_5, ml_6, ml_7, ml_8, ml_9, ml_10, ml_11, ml_12, ml_13, ml_14, ml_16, ml_31, ml_32, ml_40, ml_42, ml_48, ml_50, ml_57, ml_59, ml_60, ml_63, ml_98, ml_100, ml_103, ml_104, ml_105, ml_106, ml_107, ml_108, ml_109, ml_110, ml_111, ml_112, ml_113, ml_114, ml_115, ml_120, ml_127, ml_176, ml_180, ml_200, ml_254, ml_255, ml_256, ml_300, ml_728, ml_832, ml_65536, h9, h]
theorem mp_parse (hn : n ≤ 60) (ht : ∀ i, i < n → t i < 65536) : ∀ k j p, j + k = 12 → 6 * j ≤ p → p ≤ n → ∃ q ok N K X Y Z, ok < 2 ∧ q ≤ n ∧ j < N ∧ N ≤ 12 ∧ (∀ i, j ≤ i → i < N → K i < 6 ∧ X i < 1000 ∧ Y i < 1000 ∧ Z i < 1000) ∧ mp_PC t n p j q ok N K X Y Z ∧ mp_PR t n p j q ok N K X Y Z := by
  intro k
  induction k with
  | zero => intro j p h1 h2 h3; omega
  | succ k ih =>
    intro j p hjk hjp hpn
    have hj : j < 12 := by omega
    have nj : ¬ 12 ≤ j := by omega
    obtain ⟨q, ok, kk, x, y, z, hq, hok, hkk, hx, hy, hz, h5, hC, hR⟩ := mp_cmd hn ht hpn
    have hok2 : ok = 0 ∨ ok = 1 := by omega
    rcases hok2 with rfl | rfl
    · refine ⟨q, 0, j + 1, fun _ => 0, fun _ => 0, fun _ => 0, fun _ => 0, by decide, hq, by omega, by omega, fun _ _ _ => ⟨Nat.zero_lt_succ _, Nat.zero_lt_succ _, Nat.zero_lt_succ _, Nat.zero_lt_succ _⟩, fun m μ hm hT hp h4 => ?_, fun m μ hm hT hp h18 h19 => ?_⟩
      · obtain ⟨m, rfl⟩ : ∃ m', m = m' + 1 := ⟨m - 1, by omega⟩
        obtain ⟨a, e, ⟨Q1, Q2, Q3⟩, -⟩ := hC μ j hj hT hp
        refine ⟨a, ?_, ⟨fun j' f z1 z2 => Q1 j' f z1 (by omega), fun i z1 z2 => Q2 i z1, Q3⟩, fun z => absurd z (by decide)⟩
        simp (discharger := omega) only [f_X1_parse_L12, nI_add, mt_mul, nI_clamp, nI_leI, nI_ltI, nI_eq, mt_in_t, mt_b1, mt_b2, mt_b3, mt_b4, mt_l, mt_g, ↓reduceIte, Nat.reduceEqDiff, Nat.reduceLeDiff, ml_0, ml_1, ml_2, ml_3, ml_4, ml_5, ml_6, ml_7, ml_8, ml_9, ml_10, ml_11, ml_12, ml_13, ml_14, ml_16, ml_31, ml_32, ml_40, ml_42, ml_48, ml_50, ml_57, ml_59, ml_60, ml_63, ml_98, ml_100, ml_103, ml_104, ml_105, ml_106, ml_107, ml_108, ml_109, ml_110, ml_111, ml_112, ml_113, ml_114, ml_115, ml_120, ml_127, ml_176, ml_180, ml_200, ml_254, ml_255, ml_256, ml_300, ml_728, ml_832, ml_65536, nj, e]
      · obtain ⟨m, rfl⟩ : ∃ m', m = m' + 1 := ⟨m - 1, by omega⟩
        obtain ⟨a, e, ⟨Q1, Q2, Q3, Q4, Q5, Q6⟩, -⟩ := hR μ j hj hT hp h18 h19
        have Q5 : a 0 18 19 = nI 1 := Q5
        have eJ := mp_J70_1 Q5 Q3
        refine ⟨a, ?_, ⟨Q1, Q2, Q6⟩, fun z => absurd z (by decide)⟩
        rw [if_neg (by decide), e, mt_b2]
        simp (discharger := omega) only [f_X10_runCommands_L36, nI_add, mt_mul, nI_clamp, nI_leI, nI_ltI, nI_eq, mt_in_t, mt_b1, mt_b2, mt_b3, mt_b4, mt_l, mt_g, ↓reduceIte, Nat.reduceEqDiff, Nat.reduceLeDiff, ml_0, ml_1, ml_2, ml_3, ml_4, ml_5, ml_6, ml_7, ml_8, ml_9, ml_10, ml_11, ml_12, ml_13, ml_14, ml_16, ml_31, ml_32, ml_40, ml_42, ml_48, ml_50, ml_57, ml_59, ml_60, ml_63, ml_98, ml_100, ml_103, ml_104, ml_105, ml_106, ml_107, ml_108, ml_109, ml_110, ml_111, ml_112, ml_113, ml_114, ml_115, ml_120, ml_127, ml_176, ml_180, ml_200, ml_254, ml_255, ml_256, ml_300, ml_728, ml_832, ml_65536, Q5, eJ]
    · have h6 := h5 rfl
      by_cases hs : q < n ∧ t q = 59
      · have hqn := hs.1
        obtain ⟨q', ok', N, K, X, Y, Z, g1, g2, g3, g4, g5, gC, gR⟩ := ih (j + 1) (q + 1) (by omega) (by omega) (by omega)
        have up : ∀ (f : Nat → Nat) (v : Nat) i, j + 1 ≤ i → ms_up f j v i = f i := fun f v i hi => ms_up_o (by omega)
        refine ⟨q', ok', N, ms_up K j kk, ms_up X j x, ms_up Y j y, ms_up Z j z, g1, g2, by omega, g4, fun i i1 i2 => ?_, fun m μ hm hT hp h4 => ?_, fun m μ hm hT hp h18 h19 => ?_⟩
        · by_cases hij : i = j
          · rw [ms_up_s hij, ms_up_s hij, ms_up_s hij, ms_up_s hij]
            exact ⟨hkk, hx, hy, hz⟩
          · rw [up K kk i (by omega), up X x i (by omega), up Y y i (by omega), up Z z i (by omega)]
            exact g5 i (by omega) i2
        · obtain ⟨m, rfl⟩ : ∃ m', m = m' + 1 := ⟨m - 1, by omega⟩
          obtain ⟨a, e, ⟨Q1, Q2, Q3⟩, rw1⟩ := hC μ j hj hT hp
          have c1 : mp_cT t n (fw_u a 0 13 4 (nI (j + 1))) := mp_cT_k hT (by rw [mt_un (by omega), Q2 1 (by omega)]) (by rw [fw_u_o (by omega), Q1 0 14 (by omega) (by omega)])
          have e2 := mp_acc1 (c := 59) hn (by decide) c1 (by rw [mt_un (by omega)]; exact Q3) hs
          have a4 : a 0 13 4 = nI j := by rw [Q2 4 (by omega)]; exact h4
          obtain ⟨b, e3, ⟨P1, P2, P3⟩, P4⟩ := gC m (fw_u (fw_u a 0 13 4 (nI (j + 1))) 0 13 2 (nI (q + 1))) (by omega) (mp_cT_k c1 (mt_un (by omega)) (fw_u_o (by omega))) (mt_uy rfl) (by rw [mt_un (by omega), mt_uy rfl])
          refine ⟨b, ?_, ⟨fun j' f z1 z2 => ?_, fun i z1 z2 => ?_, P3⟩, fun hok' => ⟨(P4 hok').1, fun i i1 i2 => ?_⟩⟩
          · simp (discharger := omega) only [f_X1_parse_L12, nI_add, mt_mul, nI_clamp, nI_leI, nI_ltI, nI_eq, mt_in_t, mt_b1, mt_b2, mt_b3, mt_b4, mt_l, mt_g, ↓reduceIte, Nat.reduceEqDiff, Nat.reduceLeDiff, ml_0, ml_1, ml_2, ml_3, ml_4, ml_5, ml_6, ml_7, ml_8, ml_9, ml_10, ml_11, ml_12, ml_13, ml_14, ml_16, ml_31, ml_32, ml_40, ml_42, ml_48, ml_50, ml_57, ml_59, ml_60, ml_63, ml_98, ml_100, ml_103, ml_104, ml_105, ml_106, ml_107, ml_108, ml_109, ml_110, ml_111, ml_112, ml_113, ml_114, ml_115, ml_120, ml_127, ml_176, ml_180, ml_200, ml_254, ml_255, ml_256, ml_300, ml_728, ml_832, ml_65536, nj, e, a4, e2, e3, Nat.one_ne_zero]
          · rw [P1 j' f z1 (by omega), fw_u_o (by omega), fw_u_o (by omega), Q1 j' f z1 (by omega)]
          · rw [P2 i z1 z2, mt_un (by omega), mt_un (by omega), Q2 i z1]
          · by_cases hij : i = j
            · rw [ms_up_s hij, ms_up_s hij, ms_up_s hij, ms_up_s hij]
              subst hij
              have : b i 9 = a i 9 := by rw [P1 i 9 (by omega) (by omega), fw_u_o (by omega), fw_u_o (by omega)]
              unfold mp_crow
              rw [this]
              exact rw1 rfl
            · rw [up K kk i (by omega), up X x i (by omega), up Y y i (by omega), up Z z i (by omega)]
              exact (P4 hok').2 i (by omega) i2
        · obtain ⟨m, rfl⟩ : ∃ m', m = m' + 1 := ⟨m - 1, by omega⟩
          obtain ⟨a, e, ⟨Q1, Q2, Q3, Q4, Q5, Q6⟩, rw1⟩ := hR μ j hj hT hp h18 h19
          have Q5 : a 0 18 19 = nI 0 := Q5
          have c1 : mp_rT t n a := mp_rT_k hT (Q2 17 (by omega) (by omega) (by omega)) (Q1 0 23 (by omega))
          have eh := mp_here0 hn c1 hq Q3
          rw [(mp_heq ht (by decide)).mpr hs] at eh
          obtain ⟨b, e3, ⟨P1, P2, P3⟩, P4⟩ := gR m (fw_u a 0 18 16 (nI (q + 1))) (by omega) (mp_rT_k c1 (mt_un (by omega)) (fw_u_o (by omega))) (mt_uy rfl) (by rw [mt_un (by omega)]; exact Q4) (by rw [mt_un (by omega)]; exact Q5)
          refine ⟨b, ?_, ⟨fun j' f z1 => by rw [P1 j' f z1, fw_u_o (by omega), Q1 j' f z1], fun i z1 z2 z3 => by rw [P2 i z1 z2 z3, mt_un (by omega), Q2 i z1 z2 z3], fun i hi => by rw [P3 i (by omega), mt_un (by omega), Q6 i hi]⟩, fun hok' => ⟨(P4 hok').1, fun i i1 i2 => ?_⟩⟩
          · rw [e, mt_b2, ← e3]
            simp (discharger := omega) only [f_X10_runCommands_L36, nI_add, mt_mul, nI_clamp, nI_leI, nI_ltI, nI_eq, mt_in_t, mt_b1, mt_b2, mt_b3, mt_b4, mt_l, mt_g, ↓reduceIte, Nat.reduceEqDiff, Nat.reduceLeDiff, ml_0, ml_1, ml_2, ml_3, ml_4, ml_5, ml_6, ml_7, ml_8, ml_9, ml_10, ml_11, ml_12, ml_13, ml_14, ml_16, ml_31, ml_32, ml_40, ml_42, ml_48, ml_50, ml_57, ml_59, ml_60, ml_63, ml_98, ml_100, ml_103, ml_104, ml_105, ml_106, ml_107, ml_108, ml_109, ml_110, ml_111, ml_112, ml_113, ml_114, ml_115, ml_120, ml_127, ml_176, ml_180, ml_200, ml_254, ml_255, ml_256, ml_300, ml_728, ml_832, ml_65536, Q5, Q3, eh]
          · by_cases hij : i = j
            · rw [ms_up_s hij, ms_up_s hij, ms_up_s hij, ms_up_s hij]
              subst hij
              obtain ⟨r1, r2, r3, r4⟩ := rw1 rfl
              have k4 : ∀ w, w < 4 → b 0 24 (4 * i + w) = a 0 24 (4 * i + w) := fun w hw => by rw [P3 _ (by omega), mt_un (by omega)]
              exact ⟨(k4 0 (by omega)).trans r1, (k4 1 (by omega)).trans r2, fun z => (k4 2 (by omega)).trans (r3 z), fun z => (k4 3 (by omega)).trans (r4 z)⟩
            · rw [up K kk i (by omega), up X x i (by omega), up Y y i (by omega), up Z z i (by omega)]
              exact (P4 hok').2 i (by omega) i2
      · refine ⟨q, (if q = n then 1 else 0), j + 1, fun _ => kk, fun _ => x, fun _ => y, fun _ => z, by split <;> decide, hq, by omega, by omega, fun _ _ _ => ⟨hkk, hx, hy, hz⟩, fun m μ hm hT hp h4 => ?_, fun m μ hm hT hp h18 h19 => ?_⟩
        · obtain ⟨m, rfl⟩ : ∃ m', m = m' + 1 := ⟨m - 1, by omega⟩
          obtain ⟨a, e, ⟨Q1, Q2, Q3⟩, rw1⟩ := hC μ j hj hT hp
          have c1 : mp_cT t n (fw_u a 0 13 4 (nI (j + 1))) := mp_cT_k hT (by rw [mt_un (by omega), Q2 1 (by omega)]) (by rw [fw_u_o (by omega), Q1 0 14 (by omega) (by omega)])
          have e2 := mp_acc0 (c := 59) hn ht (by decide) c1 hq (by rw [mt_un (by omega)]; exact Q3) hs
          have a4 : a 0 13 4 = nI j := by rw [Q2 4 (by omega)]; exact h4
          have a1 : a 0 13 1 = nI n := by rw [Q2 1 (by omega)]; exact hT.1
          refine ⟨fw_u a 0 13 4 (nI (j + 1)), ?_, ⟨fun j' f z1 z2 => by rw [fw_u_o (by omega), Q1 j' f z1 (by omega)], fun i z1 z2 => by rw [mt_un (by omega), Q2 i z1], by rw [mt_un (by omega)]; exact Q3⟩, fun _ => ⟨mt_uy rfl, fun i i1 i2 => ?_⟩⟩
          · by_cases hqn : q = n
            · simp (discharger := omega) only [f_X1_parse_L12, nI_add, mt_mul, nI_clamp, nI_leI, nI_ltI, nI_eq, mt_in_t, mt_b1, mt_b2, mt_b3, mt_b4, mt_l, mt_g, ↓reduceIte, Nat.reduceEqDiff, Nat.reduceLeDiff, ml_0, ml_1, ml_2, ml_3, ml_4, ml_5, ml_6, ml_7, ml_8, ml_9, ml_10, ml_11, ml_12, ml_13, ml_14, ml_16, ml_31, ml_32, ml_40, ml_42, ml_48, ml_50, ml_57, ml_59, ml_60, ml_63, ml_98, ml_100, ml_103, ml_104, ml_105, ml_106, ml_107, ml_108, ml_109, ml_110, ml_111, ml_112, ml_113, ml_114, ml_115, ml_120, ml_127, ml_176, ml_180, ml_200, ml_254, ml_255, ml_256, ml_300, ml_728, ml_832, ml_65536, nj, e, a4, e2, mt_un, Q3, a1, hqn, Nat.one_ne_zero]
            · simp (discharger := omega) only [f_X1_parse_L12, nI_add, mt_mul, nI_clamp, nI_leI, nI_ltI, nI_eq, mt_in_t, mt_b1, mt_b2, mt_b3, mt_b4, mt_l, mt_g, ↓reduceIte, Nat.reduceEqDiff, Nat.reduceLeDiff, ml_0, ml_1, ml_2, ml_3, ml_4, ml_5, ml_6, ml_7, ml_8, ml_9, ml_10, ml_11, ml_12, ml_13, ml_14, ml_16, ml_31, ml_32, ml_40, ml_42, ml_48, ml_50, ml_57, ml_59, ml_60, ml_63, ml_98, ml_100, ml_103, ml_104, ml_105, ml_106, ml_107, ml_108, ml_109, ml_110, ml_111, ml_112, ml_113, ml_114, ml_115, ml_120, ml_127, ml_176, ml_180, ml_200, ml_254, ml_255, ml_256, ml_300, ml_728, ml_832, ml_65536, nj, e, a4, e2, mt_un, Q3, a1, hqn, Nat.one_ne_zero]
          · have hij : i = j := by omega
            subst hij
            unfold mp_crow
            rw [fw_u_o (by omega)]
            exact rw1 rfl
        · obtain ⟨m, rfl⟩ : ∃ m', m = m' + 1 := ⟨m - 1, by omega⟩
          obtain ⟨a, e, ⟨Q1, Q2, Q3, Q4, Q5, Q6⟩, rw1⟩ := hR μ j hj hT hp h18 h19
          have Q5 : a 0 18 19 = nI 0 := Q5
          have c1 : mp_rT t n a := mp_rT_k hT (Q2 17 (by omega) (by omega) (by omega)) (Q1 0 23 (by omega))
          have eh := mp_here0 hn c1 hq Q3
          have hne : ¬ nI (mp_h t n q) = nI 59 := fun w => hs ((mp_heq ht (by decide)).mp w)
          have a17 := c1.1
          refine ⟨a, ?_, ⟨Q1, Q2, Q6⟩, fun _ => ⟨Q4, fun i i1 i2 => ?_⟩⟩
          · rw [e, mt_b2]
            generalize nI (mp_h t n q) = hh at eh hne
            by_cases hqn : q = n
            · rw [hqn] at Q3
              rw [if_pos hqn, if_pos rfl]
              simp (discharger := omega) only [f_X10_runCommands_L36, f_X10_runCommands_J70, nI_add, mt_mul, nI_clamp, nI_leI, nI_ltI, nI_eq, mt_in_t, mt_b1, mt_b2, mt_b3, mt_b4, mt_l, mt_g, ↓reduceIte, Nat.reduceEqDiff, Nat.reduceLeDiff, ml_0, ml_1, ml_2, ml_3, ml_4, ml_5, ml_6, ml_7, ml_8, ml_9, ml_10, ml_11, ml_12, ml_13, ml_14, ml_16, ml_31, ml_32, ml_40, ml_42, ml_48, ml_50, ml_57, ml_59, ml_60, ml_63, ml_98, ml_100, ml_103, ml_104, ml_105, ml_106, ml_107, ml_108, ml_109, ml_110, ml_111, ml_112, ml_113, ml_114, ml_115, ml_120, ml_127, ml_176, ml_180, ml_200, ml_254, ml_255, ml_256, ml_300, ml_728, ml_832, ml_65536, Q5, eh, hne, Q3, a17, Nat.le_refl]
            · have h7 : ¬ n ≤ q := by omega
              rw [if_neg hqn, if_neg (by decide)]
              simp (discharger := omega) only [f_X10_runCommands_L36, f_X10_runCommands_J70, f_X10_fails, mp_err, nI_add, mt_mul, nI_clamp, nI_leI, nI_ltI, nI_eq, mt_in_t, mt_b1, mt_b2, mt_b3, mt_b4, mt_l, mt_g, ↓reduceIte, Nat.reduceEqDiff, Nat.reduceLeDiff, ml_0, ml_1, ml_2, ml_3, ml_4, ml_5, ml_6, ml_7, ml_8, ml_9, ml_10, ml_11, ml_12, ml_13, ml_14, ml_16, ml_31, ml_32, ml_40, ml_42, ml_48, ml_50, ml_57, ml_59, ml_60, ml_63, ml_98, ml_100, ml_103, ml_104, ml_105, ml_106, ml_107, ml_108, ml_109, ml_110, ml_111, ml_112, ml_113, ml_114, ml_115, ml_120, ml_127, ml_176, ml_180, ml_200, ml_254, ml_255, ml_256, ml_300, ml_728, ml_832, ml_65536, Q5, eh, hne, Q3, a17, h7]
          · have hij : i = j := by omega
            subst hij
            exact rw1 rfl
end PT
