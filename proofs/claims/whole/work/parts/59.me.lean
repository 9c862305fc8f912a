/-! the mathematics, 24: runCommands -/
section PE
variable {μ : fw_M} {B : Nat}
theorem mp_R_of {B' : Nat} {e : fw_M} (hR : mt_R B μ) (hB : B ≤ B') (hS : ∃ σ, mt_S B' σ e) (hH : mt_H B' e) (h2 : ∀ f, f < 9 → e 2 f = μ 2 f) (h21 : e 0 21 = μ 0 21) (h10 : e 0 10 3 = μ 0 10 3) (h6 : e 0 18 6 = μ 0 18 6) (hT : e 0 13 1 = nI 0) (h11 : e 0 18 11 = nI 0) (hX7 : mt_X1 e 7 13) (hX8 : mt_X1 e 8 14) (h16 : e 0 16 = μ 0 16) (h17 : e 0 17 = μ 0 17) (h25 : e 0 25 = μ 0 25) (h12 : e 0 18 12 = μ 0 18 12) : mt_R B' e := by
  obtain ⟨-, -, hV, -, -, -, ⟨m, m1, m2, m3, m4⟩⟩ := hR
  refine ⟨hS, hH, ?_, ⟨0, by decide, hT, h11, fun i hi => absurd hi (Nat.not_lt_zero i)⟩, hX7, hX8, ⟨m, m1, by rw [h16]; exact m2, by rw [h12]; exact m3, by rw [h17, h25]; exact m4⟩⟩
  unfold mt_V
  rw [h10, h6]
  rcases hV with hV | ⟨va, vb, ρ, vc, vd, ve⟩
  · exact Or.inl hV
  · exact Or.inr ⟨va, vb, ρ, mt_C_k vc h2, mt_M_k vd h21, mt_ok_m ve hB⟩
theorem mp_X1_k {e : fw_M} {a b : Nat} (h : mt_X1 μ a b) (h1 : e 0 10 a = μ 0 10 a) (h2 : e 0 18 b = μ 0 18 b) : mt_X1 e a b := by
  obtain ⟨v, v1, v2, v3⟩ := h
  exact ⟨v, v1, h1.trans v2, h2.trans v3⟩
theorem mp_L125 {σ : Nat → Nat} {f : Nat} (hM : mt_M μ 20 0 σ) : ∃ a, f_X10_runCommands_L125 1000 μ (nI f) (nI 0) = some (fw_u (fw_u a 0 18 14 (nI f)) 0 18 0 (nI 2), nI 0) ∧ mt_M a 19 0 σ ∧ ∀ j f, ¬ (j = 0 ∧ f = 19) → a j f = μ j f := by
  obtain ⟨a, e, K1, K2, K3⟩ := mr_fill (μ := μ) (fun n a i => f_X10_runCommands_L125 n a (nI f) i) (fd := 19) (od := 0) (N := 104) (fun i => nI (σ i)) (fun a => some (fw_u (fw_u a 0 18 14 (nI f)) 0 18 0 (nI 2), nI 0)) (by decide) (fun n a q => by
    simp (discharger := omega) only [f_X10_runCommands_L125, f_X10_fails, nI_add, mt_mul, nI_clamp, nI_leI, nI_ltI, nI_eq, mt_in_t, mt_b1, mt_b2, mt_b3, mt_b4, mt_l, mt_g, ↓reduceIte, Nat.reduceEqDiff, Nat.reduceLeDiff, ml_0, ml_1, ml_2, ml_3, ml_4, ml_5, ml_6, ml_7, ml_8, ml_9, ml_10, ml_11, ml_12, ml_13, ml_14, ml_16, ml_31, ml_32, ml_40, ml_42, ml_48, ml_50, ml_57, ml_59, ml_60, ml_63, ml_98, ml_100, ml_103, ml_104, ml_105, ml_106, ml_107, ml_108, ml_109, ml_110, ml_111, ml_112, ml_113, ml_114, ml_115, ml_120, ml_127, ml_176, ml_180, ml_200, ml_254, ml_255, ml_256, ml_300, ml_728, ml_832, ml_65536, Nat.le_refl]) (fun n a i hi q => by
    have q6 : a 0 20 i = nI (σ i) := by
      have := hM i hi
      rw [Nat.zero_add] at this
      rw [q.1 0 20 (by omega)]
      exact this
    have hi' : ¬ 104 ≤ i := by omega
    simp (discharger := omega) only [f_X10_runCommands_L125, nI_add, mt_mul, nI_clamp, nI_leI, nI_ltI, nI_eq, mt_in_t, mt_b1, mt_b2, mt_b3, mt_b4, mt_l, mt_g, ↓reduceIte, Nat.reduceEqDiff, Nat.reduceLeDiff, ml_0, ml_1, ml_2, ml_3, ml_4, ml_5, ml_6, ml_7, ml_8, ml_9, ml_10, ml_11, ml_12, ml_13, ml_14, ml_16, ml_31, ml_32, ml_40, ml_42, ml_48, ml_50, ml_57, ml_59, ml_60, ml_63, ml_98, ml_100, ml_103, ml_104, ml_105, ml_106, ml_107, ml_108, ml_109, ml_110, ml_111, ml_112, ml_113, ml_114, ml_115, ml_120, ml_127, ml_176, ml_180, ml_200, ml_254, ml_255, ml_256, ml_300, ml_728, ml_832, ml_65536, hi', q6, Nat.zero_add])
  exact ⟨a, e, fun i hi => K2 i hi, K1⟩
theorem pc_runCommands (hR : mt_R B μ) (hB : B < 100000) : mt_A (B + 12) Eq (fun k t => (k = 2 ∧ t = 1) ∨ (k = 4 ∧ t = 2)) (f_X9_runCommands μ) (fun m => f_X10_runCommands m) := by
  obtain ⟨⟨σ, hC, hM, hok⟩, ⟨k, h, hk8, hHC, hHM, hHo⟩, hV, ⟨n, n60, T1, T2, T3⟩, hX7, hX8, hO⟩ := id hR
  obtain ⟨t, ht⟩ : ∃ t : Nat → Nat, ∀ i, i < n → t i < 65536 ∧ μ 0 14 i = nI (t i) ∧ μ 0 23 i = nI (t i) := by
    refine ⟨fun i => (μ 0 14 i).toNatClampNeg, fun i hi => ?_⟩
    obtain ⟨c, c1, c2, c3⟩ := T3 i hi
    have e : (μ 0 14 i).toNatClampNeg = c := by rw [c2, nI_clamp (by omega)]
    show (μ 0 14 i).toNatClampNeg < 65536 ∧ μ 0 14 i = nI ((μ 0 14 i).toNatClampNeg) ∧ μ 0 23 i = nI ((μ 0 14 i).toNatClampNeg)
    rw [e]
    exact ⟨c1, c2, c3⟩
  have ht' : ∀ i, i < n → t i < 65536 := fun i hi => (ht i hi).1
  obtain ⟨q, ok, N, K, X, Y, Z, hok2, hqn, hN0, hN, hb, gC, gR⟩ := mp_parse n60 ht' 12 0 0 rfl (Nat.zero_le _) (Nat.zero_le _)
  obtain ⟨a, ea, ⟨A1, A2, A3⟩, A4⟩ := gC 1000 (fw_u (fw_u μ 0 13 2 (nI 0)) 0 13 4 (nI 0)) (by omega) ⟨by rw [mt_un (by omega), mt_un (by omega)]; exact T1, fun i hi => by rw [fw_u_o (by omega), fw_u_o (by omega)]; exact (ht i hi).2.1⟩ (by rw [mt_un (by omega), mt_uy rfl]) (mt_uy rfl)
  have ep : f_X1_parse μ = some (a, nI ok) := by
    simp (discharger := omega) only [f_X1_parse, nI_add, mt_mul, nI_clamp, nI_leI, nI_ltI, nI_eq, mt_in_t, mt_b1, mt_b2, mt_b3, mt_b4, mt_l, mt_g, ↓reduceIte, Nat.reduceEqDiff, Nat.reduceLeDiff, ml_0, ml_1, ml_2, ml_3, ml_4, ml_5, ml_6, ml_7, ml_8, ml_9, ml_10, ml_11, ml_12, ml_13, ml_14, ml_16, ml_31, ml_32, ml_40, ml_42, ml_48, ml_50, ml_57, ml_59, ml_60, ml_63, ml_98, ml_100, ml_103, ml_104, ml_105, ml_106, ml_107, ml_108, ml_109, ml_110, ml_111, ml_112, ml_113, ml_114, ml_115, ml_120, ml_127, ml_176, ml_180, ml_200, ml_254, ml_255, ml_256, ml_300, ml_728, ml_832, ml_65536, ea]
  have AF : ∀ j f, ¬ (j = 0 ∧ f = 13) → f ≠ 9 → a j f = μ j f := fun j f z1 z2 => by rw [A1 j f z1 (by omega), fw_u_o (by omega), fw_u_o (by omega)]
  clear ea gC A1 A2
  have start : ∀ d, mt_M d 19 0 σ → d 0 18 11 = nI n → d 0 23 = μ 0 23 → ∃ b, f_X10_runCommands d = (if ok = 1 then f_X10_runCommands_L104 1000 b (nI 0) else some (mp_err b q, nI 0)) ∧ mt_M b 20 0 σ ∧ (∀ j f, ¬ (j = 0 ∧ (f = 18 ∨ f = 20 ∨ f = 24)) → b j f = d j f) ∧ b 0 18 0 = nI 0 ∧ b 0 18 11 = nI 0 ∧ (∀ i, i ≠ 0 → i ≠ 11 → i ≠ 16 → i ≠ 17 → i ≠ 18 → i ≠ 19 → b 0 18 i = d 0 18 i) ∧ (ok = 1 → b 0 18 18 = nI N ∧ ∀ i, 0 ≤ i → i < N → mp_row b i (K i) (X i) (Y i) (Z i)) := by
    intro d dM d11 d23
    obtain ⟨b1, e1, M1, G1, t1, u1⟩ := mr_remembers dM
    have b11 : b1 0 18 11 = nI n := (u1 11 (by omega)).trans d11
    obtain ⟨b, eb, ⟨P1, P2, P3⟩, P4⟩ := gR 1000 (fw_u (fw_u (fw_u (fw_u (fw_u b1 0 18 16 (nI 0)) 0 18 17 (nI n)) 0 18 11 (nI 0)) 0 18 18 (nI 0)) 0 18 19 (nI 0)) (by omega) ⟨by rw [mt_un (by omega), mt_un (by omega), mt_un (by omega), mt_uy rfl], fun i hi => by rw [fw_u_o (by omega), fw_u_o (by omega), fw_u_o (by omega), fw_u_o (by omega), fw_u_o (by omega), G1 0 23 (by omega), d23]; exact (ht i hi).2.2⟩ (by rw [mt_un (by omega), mt_un (by omega), mt_un (by omega), mt_un (by omega), mt_uy rfl]) (by rw [mt_un (by omega), mt_uy rfl]) (mt_uy rfl)
    refine ⟨b, ?_, ?_, fun j f z => ?_, ?_, ?_, fun i i0 i1 i2 i3 i4 i5 => ?_, P4⟩
    · rw [← eb]
      simp (discharger := omega) only [f_X10_runCommands, nI_add, mt_mul, nI_clamp, nI_leI, nI_ltI, nI_eq, mt_in_t, mt_b1, mt_b2, mt_b3, mt_b4, mt_l, mt_g, ↓reduceIte, Nat.reduceEqDiff, Nat.reduceLeDiff, ml_0, ml_1, ml_2, ml_3, ml_4, ml_5, ml_6, ml_7, ml_8, ml_9, ml_10, ml_11, ml_12, ml_13, ml_14, ml_16, ml_31, ml_32, ml_40, ml_42, ml_48, ml_50, ml_57, ml_59, ml_60, ml_63, ml_98, ml_100, ml_103, ml_104, ml_105, ml_106, ml_107, ml_108, ml_109, ml_110, ml_111, ml_112, ml_113, ml_114, ml_115, ml_120, ml_127, ml_176, ml_180, ml_200, ml_254, ml_255, ml_256, ml_300, ml_728, ml_832, ml_65536, e1, mt_un, b11]
    · exact mt_M_k M1 (by rw [P1 0 20 (by omega), fw_u_o (by omega), fw_u_o (by omega), fw_u_o (by omega), fw_u_o (by omega), fw_u_o (by omega)])
    · rw [P1 j f (by omega), fw_u_o (by omega), fw_u_o (by omega), fw_u_o (by omega), fw_u_o (by omega), fw_u_o (by omega), G1 j f (by omega)]
    · rw [P2 0 (by omega) (by omega) (by omega), mt_un (by omega), mt_un (by omega), mt_un (by omega), mt_un (by omega), mt_un (by omega), t1]
    · rw [P2 11 (by omega) (by omega) (by omega), mt_un (by omega), mt_un (by omega), mt_uy rfl]
    · rw [P2 i i2 i4 i5, mt_un (by omega), mt_un (by omega), mt_un (by omega), mt_un (by omega), mt_un (by omega), u1 i i0]
  clear gR
  have hok3 : ok = 0 ∨ ok = 1 := by omega
  rcases hok3 with rfl | rfl
  · have hX : f_X9_runCommands μ = some (fw_u (fw_u a 0 13 1 (nI 0)) 0 10 7 (nI q), nI 0, 2) := by
      simp (discharger := omega) only [f_X9_runCommands, f_X1_empty, nI_add, mt_mul, nI_clamp, nI_leI, nI_ltI, nI_eq, mt_in_t, mt_b1, mt_b2, mt_b3, mt_b4, mt_l, mt_g, ↓reduceIte, Nat.reduceEqDiff, Nat.reduceLeDiff, ml_0, ml_1, ml_2, ml_3, ml_4, ml_5, ml_6, ml_7, ml_8, ml_9, ml_10, ml_11, ml_12, ml_13, ml_14, ml_16, ml_31, ml_32, ml_40, ml_42, ml_48, ml_50, ml_57, ml_59, ml_60, ml_63, ml_98, ml_100, ml_103, ml_104, ml_105, ml_106, ml_107, ml_108, ml_109, ml_110, ml_111, ml_112, ml_113, ml_114, ml_115, ml_120, ml_127, ml_176, ml_180, ml_200, ml_254, ml_255, ml_256, ml_300, ml_728, ml_832, ml_65536, ep, mt_un, A3]
    generalize hd : fw_u (fw_u a 0 13 1 (nI 0)) 0 10 7 (nI q) = d at hX
    have D : ∀ j f, ¬ (j = 0 ∧ (f = 10 ∨ f = 13)) → f ≠ 9 → d j f = μ j f := fun j f z1 z2 => by rw [← hd, fw_u_o (by omega), fw_u_o (by omega), AF j f (by omega) z2]
    have D10 : ∀ i, i ≠ 7 → d 0 10 i = μ 0 10 i := fun i z => by rw [← hd, mt_un (by omega), fw_u_o (by omega), AF 0 10 (by omega) (by omega)]
    have D7 : d 0 10 7 = nI q := by rw [← hd, mt_uy rfl]
    have D1 : d 0 13 1 = nI 0 := by rw [← hd, fw_u_o (by omega), mt_uy rfl]
    obtain ⟨b, eb, M20, G, g0, g11, g18, -⟩ := start d (mt_M_k hM (D 0 19 (by omega) (by omega))) (by rw [D 0 18 (by omega) (by omega)]; exact T2) (D 0 23 (by omega) (by omega))
    rw [if_neg (by decide)] at eb
    have E : ∀ j f, ¬ (j = 0 ∧ (f = 10 ∨ f = 13 ∨ f = 18 ∨ f = 20 ∨ f = 24)) → f ≠ 9 → mp_err b q j f = μ j f := fun j f z1 z2 => by
      unfold mp_err
      rw [fw_u_o (by omega), fw_u_o (by omega), G j f (by omega), D j f (by omega) z2]
    have E18 : ∀ i, i ≠ 0 → i ≠ 11 → i ≠ 13 → i ≠ 16 → i ≠ 17 → i ≠ 18 → i ≠ 19 → mp_err b q 0 18 i = μ 0 18 i := fun i z0 z1 z2 z3 z4 z5 z6 => by
      unfold mp_err
      rw [mt_un (by omega), mt_un (by omega), g18 i z0 z1 z3 z4 z5 z6, D 0 18 (by omega) (by omega)]
    have E10 : mp_err b q 0 10 = d 0 10 := by
      unfold mp_err
      rw [fw_u_o (by omega), fw_u_o (by omega), G 0 10 (by omega)]
    refine ⟨d, nI 0, 2, mp_err b q, nI 0, 1, hX, eb, ?_, mp_R_of hR (by omega) ⟨σ, mt_C_k hC (fun f hf => E 0 f (by omega) (by omega)), mt_M_k hM (E 0 19 (by omega) (by omega)), mt_ok_m hok (by omega)⟩ ⟨k, h, hk8, mt_HC_s hHC (fun j f hf hj => E j f (by omega) (by omega)) (E 0 11 (by omega) (by omega)), mt_HM_s hHM (E18 5 (by omega) (by omega) (by omega) (by omega) (by omega) (by omega) (by omega)) (E 0 22 (by omega) (by omega)), fun i hi => mt_ok_m (hHo i hi) (by omega)⟩ (fun f hf => E 2 f (by omega) (by omega)) (E 0 21 (by omega) (by omega)) (by rw [E10]; exact D10 3 (by omega)) (E18 6 (by omega) (by omega) (by omega) (by omega) (by omega) (by omega) (by omega)) ?_ ?_ ⟨q, Or.inr (by omega), by rw [E10]; exact D7, ?_⟩ (mp_X1_k hX8 (by rw [E10]; exact D10 8 (by omega)) (E18 14 (by omega) (by omega) (by omega) (by omega) (by omega) (by omega) (by omega))) (E 0 16 (by omega) (by omega)) (E 0 17 (by omega) (by omega)) (E 0 25 (by omega) (by omega)) (E18 12 (by omega) (by omega) (by omega) (by omega) (by omega) (by omega) (by omega)), Or.inr (Or.inl ⟨rfl, rfl⟩)⟩
    · unfold mp_err
      rw [mt_uy rfl]
    · unfold mp_err
      rw [fw_u_o (by omega), fw_u_o (by omega), G 0 13 (by omega)]
      exact D1
    · unfold mp_err
      rw [mt_un (by omega), mt_un (by omega)]
      exact g11
    · unfold mp_err
      rw [mt_un (by omega), mt_uy rfl]
  · obtain ⟨A5, A6⟩ := A4 rfl
    obtain ⟨nw, hn, w1, w2, w3⟩ := id hHC
    have AF' : ∀ j f, ¬ (j = 0 ∧ f = 13) → f ≠ 9 → fw_u a 0 13 1 (nI 0) j f = μ j f := fun j f z1 z2 => by rw [fw_u_o (by omega), AF j f z1 z2]
    obtain ⟨c, ec, C1, F1⟩ := mc_prepare (μ := fw_u a 0 13 1 (nI 0)) (σ := σ) hn (by rw [AF' 0 11 (by omega) (by omega)]; exact w1) (mt_C_k hC (fun f hf => AF' 0 f (by omega) (by omega))) hok.1
    have CF : ∀ j f, ¬ (j = 0 ∧ f = 13) → f ≠ 9 → ¬ (j = 3 + (nw + 1) % 9 ∧ f < 9) → c j f = μ j f := fun j f z1 z2 z3 => by rw [F1 j f (mt_sC_f (by omega)), AF' j f z1 z2]
    have c134 : c 0 13 4 = nI N := by rw [F1 0 13 (mt_sC_f (by omega)), mt_un (by omega)]; exact A5
    have c131 : c 0 13 1 = nI 0 := by rw [F1 0 13 (mt_sC_f (by omega)), mt_uy rfl]
    have crows : ∀ i, i < N → mp_crow c i (K i) (X i) (Y i) (Z i) := fun i hi => by
      unfold mp_crow
      rw [F1 i 9 (mt_sC_f (by omega)), fw_u_o (by omega)]
      exact A6 i (Nat.zero_le i) hi
    have cC : mt_C c 0 σ := mt_C_k hC (fun f hf => CF 0 f (by omega) (by omega) (by omega))
    have hB12 : B ≤ B + 12 := by omega
    rcases mp_run hN (fun i hi => hb i (Nat.zero_le i) hi) N 0 B σ c 1000 (by omega) (by omega) (by omega) hok cC c134 crows with ⟨σ', a2, E1, E2, E3, E4, E5⟩ | ⟨f, a2, hf, E1, E3, E5⟩
    · have F2 : ∀ j f, ¬ (j = 0 ∧ (f = 13 ∨ f < 9)) → f ≠ 9 → ¬ (j = 3 + (nw + 1) % 9 ∧ f < 9) → a2 j f = μ j f := fun j f z1 z2 z3 => by rw [E3 j f (mt_sC_f (by omega)), CF j f (by omega) z2 z3]
      have a13 : ∀ i, a2 0 13 i = c 0 13 i := fun i => by rw [E3 0 13 (mt_sC_f (by omega))]
      have a134 : a2 0 13 4 = nI N := (a13 4).trans c134
      have ek := mc_keep (μ := a2) (k := k) hn (by rw [F2 0 11 (by omega) (by omega) (by omega)]; exact w1) (by rw [F2 0 11 (by omega) (by omega) (by omega)]; exact w2) hk8
      have HC2 := mt_HC_push (μ := μ) (σ := σ) (a := a2) hn hk8 w3 (mt_C_k C1 (fun f hf => E3 _ f (mt_sC_f (by omega)))) (fun j f hf hj hne => F2 j f (by omega) (by omega) (by omega))
      have E1' : f_X9_carryOutUntilFault c = some (a2, nI N) := E1
      have hX : f_X9_runCommands μ = some (fw_u (fw_u a2 0 11 1 (nI ((nw + 1) % 9))) 0 11 2 (nI (ms_k1 k)), nI N, 0) := by
        simp (discharger := omega) only [f_X9_runCommands, f_X1_empty, nI_add, mt_mul, nI_clamp, nI_leI, nI_ltI, nI_eq, mt_in_t, mt_b1, mt_b2, mt_b3, mt_b4, mt_l, mt_g, ↓reduceIte, Nat.reduceEqDiff, Nat.reduceLeDiff, ml_0, ml_1, ml_2, ml_3, ml_4, ml_5, ml_6, ml_7, ml_8, ml_9, ml_10, ml_11, ml_12, ml_13, ml_14, ml_16, ml_31, ml_32, ml_40, ml_42, ml_48, ml_50, ml_57, ml_59, ml_60, ml_63, ml_98, ml_100, ml_103, ml_104, ml_105, ml_106, ml_107, ml_108, ml_109, ml_110, ml_111, ml_112, ml_113, ml_114, ml_115, ml_120, ml_127, ml_176, ml_180, ml_200, ml_254, ml_255, ml_256, ml_300, ml_728, ml_832, ml_65536, ep, ec, E1', a134, ek, mt_un, Nat.le_refl, Nat.one_ne_zero]
      generalize hd : fw_u (fw_u a2 0 11 1 (nI ((nw + 1) % 9))) 0 11 2 (nI (ms_k1 k)) = d at hX HC2
      have DD : ∀ j f, ¬ (j = 0 ∧ f = 11) → d j f = a2 j f := fun j f z => by rw [← hd, fw_u_o (by omega), fw_u_o (by omega)]
      have D : ∀ j f, ¬ (j = 0 ∧ (f = 11 ∨ f = 13 ∨ f < 9)) → f ≠ 9 → ¬ (3 ≤ j ∧ f < 9) → d j f = μ j f := fun j f z1 z2 z3 => by rw [DD j f (by omega), F2 j f (by omega) z2 (by omega)]
      obtain ⟨b, eb, M20, G, g0, g11, g18, gr⟩ := start d (mt_M_k hM (D 0 19 (by omega) (by omega) (by omega))) (by rw [D 0 18 (by omega) (by omega) (by omega)]; exact T2) (D 0 23 (by omega) (by omega) (by omega))
      obtain ⟨r18, rr⟩ := gr rfl
      rw [if_pos rfl] at eb
      have bM : mt_M b 19 0 σ := mt_M_k hM (by rw [G 0 19 (by omega), D 0 19 (by omega) (by omega) (by omega)])
      obtain ⟨b2, e2, M2, W2, v2⟩ := E5 1000 b (by omega) bM r18 (fun i hi => rr i (Nat.zero_le i) hi)
      have HM2 : mt_HM b2 k h := mt_HM_s hHM (by rw [v2 5 (by omega), g18 5 (by omega) (by omega) (by omega) (by omega) (by omega) (by omega), D 0 18 (by omega) (by omega) (by omega)]) (by rw [W2 0 22 (mt_sW_f (by omega)), G 0 22 (by omega), D 0 22 (by omega) (by omega) (by omega)])
      obtain ⟨b3, e3, HM3, G3, u3⟩ := mr_changed (μ := b2) (x := nI N) HM2 hk8 (mt_M_k M20 (W2 0 20 (mt_sW_f (by omega))))
      have GD : ∀ j f, ¬ (j = 0 ∧ (f = 18 ∨ f = 19 ∨ f = 20 ∨ f = 22 ∨ f = 24 ∨ f = 26)) → b3 j f = d j f := fun j f z => by rw [G3 j f (by omega), W2 j f (mt_sW_f (by omega)), G j f (by omega)]
      have E : ∀ j f, ¬ (j = 0 ∧ (f = 11 ∨ f = 13 ∨ f = 18 ∨ f = 19 ∨ f = 20 ∨ f = 22 ∨ f = 24 ∨ f = 26 ∨ f < 9)) → f ≠ 9 → ¬ (3 ≤ j ∧ f < 9) → b3 j f = μ j f := fun j f z1 z2 z3 => by rw [GD j f (by omega), D j f (by omega) z2 z3]
      have E18 : ∀ i, i ≠ 0 → i ≠ 5 → i ≠ 11 → i ≠ 15 → i ≠ 16 → i ≠ 17 → i ≠ 18 → i ≠ 19 → b3 0 18 i = μ 0 18 i := fun i z0 z1 z2 z3 z4 z5 z6 z7 => by rw [u3 i z1, v2 i z3, g18 i z0 z2 z4 z5 z6 z7, D 0 18 (by omega) (by omega) (by omega)]
      have X10 : b3 0 10 = μ 0 10 := E 0 10 (by omega) (by omega) (by omega)
      refine ⟨d, nI N, 0, b3, nI N, 0, hX, (eb.trans e2).trans e3, ?_, mp_R_of hR hB12 ⟨σ', mt_C_k E2 (fun f hf => by rw [GD 0 f (by omega), DD 0 f (by omega)]), mt_M_k M2 (G3 0 19 (by omega)), mt_ok_m E4 (by omega)⟩ ⟨ms_k1 k, ms_push k h σ, ms_k1_le, mt_HC_s HC2 (fun j f hf hj => GD j f (by omega)) (GD 0 11 (by omega)), HM3, fun i hi => mt_ok_m (ms_push_ok hk8 hHo hok i hi) hB12⟩ (fun f hf => E 2 f (by omega) (by omega) (by omega)) (E 0 21 (by omega) (by omega) (by omega)) (by rw [X10]) (E18 6 (by omega) (by omega) (by omega) (by omega) (by omega) (by omega) (by omega) (by omega)) ?_ ?_ (mp_X1_k hX7 (by rw [X10]) (E18 13 (by omega) (by omega) (by omega) (by omega) (by omega) (by omega) (by omega) (by omega))) (mp_X1_k hX8 (by rw [X10]) (E18 14 (by omega) (by omega) (by omega) (by omega) (by omega) (by omega) (by omega) (by omega))) (E 0 16 (by omega) (by omega) (by omega)) (E 0 17 (by omega) (by omega) (by omega)) (E 0 25 (by omega) (by omega) (by omega)) (E18 12 (by omega) (by omega) (by omega) (by omega) (by omega) (by omega) (by omega) (by omega)), Or.inl ⟨rfl, rfl, rfl⟩⟩
      · rw [u3 0 (by omega), v2 0 (by omega), g0]
      · rw [GD 0 13 (by omega), DD 0 13 (by omega), a13 1]
        exact c131
      · rw [u3 11 (by omega), v2 11 (by omega), g11]
    · have F2 : ∀ j f, ¬ (j = 0 ∧ (f = 13 ∨ f < 9)) → f ≠ 9 → ¬ (j = 3 + (nw + 1) % 9 ∧ f < 9) → a2 j f = μ j f := fun j f z1 z2 z3 => by rw [E3 j f (mt_sC_f (by omega)), CF j f (by omega) z2 z3]
      have a13 : ∀ i, a2 0 13 i = c 0 13 i := fun i => by rw [E3 0 13 (mt_sC_f (by omega))]
      have a134 : a2 0 13 4 = nI N := (a13 4).trans c134
      have C2 : mt_C a2 (3 + (nw + 1) % 9) σ := mt_C_k C1 (fun f hf => E3 _ f (mt_sC_f (by omega)))
      obtain ⟨a3, e3, C3, F3⟩ := mc_copyFrom (j0 := 0) (j1 := 3 + (nw + 1) % 9) (by omega) C2 hok.1
      have es := mc_spare (μ := a2) hn (by rw [F2 0 11 (by omega) (by omega) (by omega)]; exact w1)
      have ek : f_X3_takePreparedBack a2 0 = some (a3, ()) := by
        simp (discharger := omega) only [f_X3_takePreparedBack, nI_add, mt_mul, nI_clamp, nI_leI, nI_ltI, nI_eq, mt_in_t, mt_b1, mt_b2, mt_b3, mt_b4, mt_l, mt_g, ↓reduceIte, Nat.reduceEqDiff, Nat.reduceLeDiff, ml_0, ml_1, ml_2, ml_3, ml_4, ml_5, ml_6, ml_7, ml_8, ml_9, ml_10, ml_11, ml_12, ml_13, ml_14, ml_16, ml_31, ml_32, ml_40, ml_42, ml_48, ml_50, ml_57, ml_59, ml_60, ml_63, ml_98, ml_100, ml_103, ml_104, ml_105, ml_106, ml_107, ml_108, ml_109, ml_110, ml_111, ml_112, ml_113, ml_114, ml_115, ml_120, ml_127, ml_176, ml_180, ml_200, ml_254, ml_255, ml_256, ml_300, ml_728, ml_832, ml_65536, es, e3]
      have E1' : f_X9_carryOutUntilFault c = some (a2, nI f) := E1
      have nf : ¬ N ≤ f := by omega
      have hX : f_X9_runCommands μ = some (fw_u a3 0 10 8 (nI f), nI 0, 4) := by
        simp (discharger := omega) only [f_X9_runCommands, f_X1_empty, nI_add, mt_mul, nI_clamp, nI_leI, nI_ltI, nI_eq, mt_in_t, mt_b1, mt_b2, mt_b3, mt_b4, mt_l, mt_g, ↓reduceIte, Nat.reduceEqDiff, Nat.reduceLeDiff, ml_0, ml_1, ml_2, ml_3, ml_4, ml_5, ml_6, ml_7, ml_8, ml_9, ml_10, ml_11, ml_12, ml_13, ml_14, ml_16, ml_31, ml_32, ml_40, ml_42, ml_48, ml_50, ml_57, ml_59, ml_60, ml_63, ml_98, ml_100, ml_103, ml_104, ml_105, ml_106, ml_107, ml_108, ml_109, ml_110, ml_111, ml_112, ml_113, ml_114, ml_115, ml_120, ml_127, ml_176, ml_180, ml_200, ml_254, ml_255, ml_256, ml_300, ml_728, ml_832, ml_65536, ep, ec, E1', a134, ek, nf, Nat.one_ne_zero]
      generalize hd : fw_u a3 0 10 8 (nI f) = d at hX
      have DD : ∀ j f, ¬ (j = 0 ∧ f = 10) → d j f = a3 j f := fun j f z => by rw [← hd, fw_u_o (by omega)]
      have D : ∀ j f, ¬ (j = 0 ∧ (f = 10 ∨ f = 13 ∨ f < 9)) → f ≠ 9 → ¬ (j = 3 + (nw + 1) % 9 ∧ f < 9) → d j f = μ j f := fun j f z1 z2 z3 => by rw [DD j f (by omega), F3 j f (mt_sC_f (by omega)), F2 j f (by omega) z2 z3]
      have D10 : ∀ i, i ≠ 8 → d 0 10 i = μ 0 10 i := fun i z => by rw [← hd, mt_un (by omega), F3 0 10 (mt_sC_f (by omega)), F2 0 10 (by omega) (by omega) (by omega)]
      have D8 : d 0 10 8 = nI f := by rw [← hd, mt_uy rfl]
      obtain ⟨b, eb, M20, G, g0, g11, g18, gr⟩ := start d (mt_M_k hM (D 0 19 (by omega) (by omega) (by omega))) (by rw [D 0 18 (by omega) (by omega) (by omega)]; exact T2) (D 0 23 (by omega) (by omega) (by omega))
      obtain ⟨r18, rr⟩ := gr rfl
      rw [if_pos rfl] at eb
      have bM : mt_M b 19 0 σ := mt_M_k hM (by rw [G 0 19 (by omega), D 0 19 (by omega) (by omega) (by omega)])
      obtain ⟨b2, e2, W2, v2⟩ := E5 1000 b (by omega) bM r18 (fun i hi => rr i (Nat.zero_le i) hi)
      obtain ⟨b3, e4, M3, G3⟩ := mp_L125 (μ := b2) (σ := σ) (f := f) (mt_M_k M20 (W2 0 20 (mt_sW_f (by omega))))
      generalize he : fw_u (fw_u b3 0 18 14 (nI f)) 0 18 0 (nI 2) = e at e4
      have GD : ∀ j f, ¬ (j = 0 ∧ (f = 18 ∨ f = 19 ∨ f = 20 ∨ f = 24 ∨ f = 26)) → e j f = d j f := fun j f z => by rw [← he, fw_u_o (by omega), fw_u_o (by omega), G3 j f (by omega), W2 j f (mt_sW_f (by omega)), G j f (by omega)]
      have E : ∀ j f, ¬ (j = 0 ∧ (f = 10 ∨ f = 13 ∨ f = 18 ∨ f = 19 ∨ f = 20 ∨ f = 24 ∨ f = 26 ∨ f < 9)) → f ≠ 9 → ¬ (j = 3 + (nw + 1) % 9 ∧ f < 9) → e j f = μ j f := fun j f z1 z2 z3 => by rw [GD j f (by omega), D j f (by omega) z2 z3]
      have E18 : ∀ i, i ≠ 0 → i ≠ 11 → i ≠ 14 → i ≠ 15 → i ≠ 16 → i ≠ 17 → i ≠ 18 → i ≠ 19 → e 0 18 i = μ 0 18 i := fun i z0 z1 z2 z3 z4 z5 z6 z7 => by rw [← he, mt_un (by omega), mt_un (by omega), G3 0 18 (by omega), v2 i z3, g18 i z0 z1 z4 z5 z6 z7, D 0 18 (by omega) (by omega) (by omega)]
      have X10 : e 0 10 = d 0 10 := GD 0 10 (by omega)
      refine ⟨d, nI 0, 4, e, nI 0, 2, hX, (eb.trans e2).trans e4, ?_, mp_R_of hR hB12 ⟨σ, mt_C_k C3 (fun f hf => by rw [GD 0 f (by omega), DD 0 f (by omega)]), mt_M_k M3 (by rw [← he, fw_u_o (by omega), fw_u_o (by omega)]), mt_ok_m hok hB12⟩ ⟨k, h, hk8, ⟨nw, hn, by rw [E 0 11 (by omega) (by omega) (by omega)]; exact w1, by rw [E 0 11 (by omega) (by omega) (by omega)]; exact w2, fun i hi => mt_C_k (w3 i hi) (fun f hf => E _ f (by omega) (by omega) (by omega))⟩, mt_HM_s hHM (E18 5 (by omega) (by omega) (by omega) (by omega) (by omega) (by omega) (by omega) (by omega)) (E 0 22 (by omega) (by omega) (by omega)), fun i hi => mt_ok_m (hHo i hi) hB12⟩ (fun f hf => E 2 f (by omega) (by omega) (by omega)) (E 0 21 (by omega) (by omega) (by omega)) (by rw [X10]; exact D10 3 (by omega)) (E18 6 (by omega) (by omega) (by omega) (by omega) (by omega) (by omega) (by omega) (by omega)) ?_ ?_ (mp_X1_k hX7 (by rw [X10]; exact D10 7 (by omega)) (E18 13 (by omega) (by omega) (by omega) (by omega) (by omega) (by omega) (by omega) (by omega))) ⟨f, Or.inr (by omega), by rw [X10]; exact D8, by rw [← he, mt_un (by omega), mt_uy rfl]⟩ (E 0 16 (by omega) (by omega) (by omega)) (E 0 17 (by omega) (by omega) (by omega)) (E 0 25 (by omega) (by omega) (by omega)) (E18 12 (by omega) (by omega) (by omega) (by omega) (by omega) (by omega) (by omega) (by omega)), Or.inr (Or.inr ⟨rfl, rfl⟩)⟩
      · rw [← he, mt_uy rfl]
      · rw [GD 0 13 (by omega), DD 0 13 (by omega), F3 0 13 (mt_sC_f (by omega)), a13 1]
        exact c131
      · rw [← he, mt_un (by omega), mt_un (by omega), G3 0 18 (by omega), v2 11 (by omega), g11]
end PE
