/-! the mathematics, 19: writeBag -/
def ms_w1 (σ : Nat → Nat) (g : Nat) (l : List Nat) : List Nat := ((if l.length = 0 then l else l ++ [32]) ++ [if σ (4 + 6 * g + 1) = 1 then 115 else 103]) ++ [48 + σ (4 + 6 * g + 2)] ++ List.replicate (ms_pc (σ (4 + 6 * g + 3))) 42
def ms_wo (σ : Nat → Nat) (c : Nat) : Nat → List Nat
  | 0 => []
  | i + 1 => if σ (4 + 6 * i + 4) = 0 ∧ σ (4 + 6 * i + 0) = c then ms_w1 σ i (ms_wo σ c i) else ms_wo σ c i
def mt_o1 (a : fw_M) (l : List Nat) : Prop := a 0 16 1 = nI l.length ∧ ∀ i, i < l.length → a 0 17 i = nI (l.getD i 0)
def mt_o2 (a : fw_M) (l : List Nat) : Prop := a 0 18 12 = nI l.length ∧ ∀ i, i < l.length → a 0 25 i = nI (l.getD i 0)
def mt_so : Nat → Nat → Bool := fun j f => decide (j = 0 ∧ (f = 16 ∨ f = 17))
theorem mt_so_f {j f : Nat} (h : ¬ (j = 0 ∧ (f = 16 ∨ f = 17))) : mt_so j f = false := decide_eq_false h
theorem ms_w1_len {σ : Nat → Nat} {g : Nat} {l : List Nat} : (ms_w1 σ g l).length = (if l.length = 0 then 0 else l.length + 1) + 2 + ms_pc (σ (4 + 6 * g + 3)) := by
  unfold ms_w1
  rw [List.length_append, List.length_append, List.length_append, List.length_replicate]
  split
  · rename_i h
    rw [h]
    rfl
  · rw [List.length_append]
    rfl
theorem ms_wo_len {σ : Nat → Nat} {c : Nat} (hk : mt_k σ) : ∀ i, i ≤ σ 0 → (ms_wo σ c i).length ≤ 11 * i
  | 0, _ => Nat.le_refl _
  | i + 1, h => by
    have ih := ms_wo_len (c := c) hk i (by omega)
    have b := ms_pc_lt _ (hk.2 i (by omega)).2.2.2.1
    show (if σ (4 + 6 * i + 4) = 0 ∧ σ (4 + 6 * i + 0) = c then ms_w1 σ i (ms_wo σ c i) else ms_wo σ c i).length ≤ _
    split
    · rw [ms_w1_len]
      split <;> omega
    · omega
theorem ms_wo_lt {σ : Nat → Nat} {c : Nat} (hk : mt_k σ) : ∀ i, i ≤ σ 0 → ∀ x, x ∈ ms_wo σ c i → x < 65536
  | 0, _, x, hx => by cases hx
  | i + 1, h, x, hx => by
    have ih := ms_wo_lt (c := c) hk i (by omega)
    have b := (hk.2 i (by omega)).2.2.1
    have hx : x ∈ (if σ (4 + 6 * i + 4) = 0 ∧ σ (4 + 6 * i + 0) = c then ms_w1 σ i (ms_wo σ c i) else ms_wo σ c i) := hx
    split at hx
    · unfold ms_w1 at hx
      rcases List.mem_append.mp hx with hx | hx
      · rcases List.mem_append.mp hx with hx | hx
        · rcases List.mem_append.mp hx with hx | hx
          · split at hx
            · exact ih x hx
            · rcases List.mem_append.mp hx with hx | hx
              · exact ih x hx
              · rw [List.mem_singleton.mp hx]; decide
          · rw [List.mem_singleton.mp hx]
            split <;> decide
        · rw [List.mem_singleton.mp hx]
          omega
      · rw [List.eq_of_mem_replicate hx]
        decide
    · exact ih x hx
section PW
variable {μ : fw_M} {σ : Nat → Nat} {B : Nat}
theorem mt_getD_a (l : List Nat) (c i : Nat) : (l ++ [c]).getD i 0 = if i < l.length then l.getD i 0 else if i = l.length then c else 0 := by
  rw [List.getD_eq_getElem?_getD, List.getD_eq_getElem?_getD]
  by_cases h : i < l.length
  · rw [if_pos h, List.getElem?_append_left h]
  · rw [if_neg h, List.getElem?_append_right (by omega)]
    by_cases h2 : i = l.length
    · rw [if_pos h2, h2, Nat.sub_self]
      rfl
    · rw [if_neg h2, List.getElem?_eq_none (by show 1 ≤ _; omega)]
      rfl
theorem mc_append {a : fw_M} {l : List Nat} {c : Nat} (h : mt_o1 a l) (hl : l.length < 176) (hc : c < 65536) : ∃ b, f_X5_append a (nI c) = some (b, ()) ∧ mt_o1 b (l ++ [c]) ∧ mt_fr mt_so a b := by
  obtain ⟨h1, h2⟩ := h
  have nc := mt_narc c hc
  have hl' : ¬ 176 ≤ l.length := by omega
  refine ⟨fw_u (fw_u a 0 17 l.length (nI c)) 0 16 1 (nI (l.length + 1)), ?_, ⟨?_, fun i hi => ?_⟩, mt_fr_a (mt_fr_a mt_fr_r (by decide)) (by decide)⟩
  · simp (discharger := omega) only [f_X5_append, nI_add, mt_mul, nI_clamp, nI_leI, nI_ltI, nI_eq, mt_in_t, mt_b1, mt_b2, mt_b3, mt_b4, mt_l, mt_g, ↓reduceIte, Nat.reduceEqDiff, Nat.reduceLeDiff, ml_0, ml_1, ml_2, ml_3, ml_4, ml_5, ml_6, ml_7, ml_8, ml_9, ml_10, ml_11, ml_12, ml_13, ml_14, ml_16, ml_31, ml_32, ml_40, ml_42, ml_48, ml_50, ml_57, ml_59, ml_60, ml_63, ml_98, ml_100, ml_103, ml_104, ml_105, ml_106, ml_107, ml_108, ml_109, ml_110, ml_111, ml_112, ml_113, ml_114, ml_115, ml_120, ml_127, ml_176, ml_180, ml_200, ml_254, ml_255, ml_256, ml_300, ml_728, ml_832, ml_65536, h1, hl', nc, mt_un]
  · rw [mt_uy rfl, List.length_append]
    rfl
  · rw [List.length_append] at hi
    have hi : i < l.length + 1 := hi
    rw [mt_un (by omega), mt_getD_a]
    by_cases hil : i < l.length
    · rw [if_pos hil, mt_un (by omega)]
      exact h2 i hil
    · rw [if_neg hil, if_pos (by omega), mt_uy (by omega)]
theorem mr_writes {a : fw_M} {l : List Nat} {c : Nat} (h : mt_o2 a l) (hl : l.length < 176) : ∃ b, f_X10_writes a (nI c) = some (b, ()) ∧ mt_o2 b (l ++ [c]) ∧ (∀ j f, ¬ (j = 0 ∧ (f = 18 ∨ f = 25)) → b j f = a j f) ∧ ∀ i, i ≠ 12 → b 0 18 i = a 0 18 i := by
  obtain ⟨h1, h2⟩ := h
  refine ⟨fw_u (fw_u a 0 25 l.length (nI c)) 0 18 12 (nI (l.length + 1)), ?_, ⟨?_, fun i hi => ?_⟩, fun j f q => ?_, fun i hi => ?_⟩
  · simp (discharger := omega) only [f_X10_writes, nI_add, mt_mul, nI_clamp, nI_leI, nI_ltI, nI_eq, mt_in_t, mt_b1, mt_b2, mt_b3, mt_b4, mt_l, mt_g, ↓reduceIte, Nat.reduceEqDiff, Nat.reduceLeDiff, ml_0, ml_1, ml_2, ml_3, ml_4, ml_5, ml_6, ml_7, ml_8, ml_9, ml_10, ml_11, ml_12, ml_13, ml_14, ml_16, ml_31, ml_32, ml_40, ml_42, ml_48, ml_50, ml_57, ml_59, ml_60, ml_63, ml_98, ml_100, ml_103, ml_104, ml_105, ml_106, ml_107, ml_108, ml_109, ml_110, ml_111, ml_112, ml_113, ml_114, ml_115, ml_120, ml_127, ml_176, ml_180, ml_200, ml_254, ml_255, ml_256, ml_300, ml_728, ml_832, ml_65536, h1, mt_un]
  · rw [mt_uy rfl, List.length_append]
    rfl
  · rw [List.length_append] at hi
    have hi : i < l.length + 1 := hi
    rw [mt_un (by omega), mt_getD_a]
    by_cases hil : i < l.length
    · rw [if_pos hil, mt_un (by omega)]
      exact h2 i hil
    · rw [if_neg hil, if_pos (by omega), mt_uy (by omega)]
  · rw [fw_u_o (by omega), fw_u_o (by omega)]
  · rw [mt_un (by omega), mt_un (by omega)]
theorem mc_stars {a : fw_M} {l : List Nat} {k : Nat} (h : mt_o1 a l) (hl : l.length + k ≤ 176) : ∃ b, f_X9_describe_L76 1000 a (nI k) (nI 0) = some (b, ()) ∧ mt_o1 b (l ++ List.replicate k 42) ∧ mt_fr mt_so a b := by
  refine mt_while (L := fun n (b : fw_M) i => f_X9_describe_L76 n b (nI k) i) (I := fun i b => mt_o1 b (l ++ List.replicate i 42) ∧ mt_fr mt_so a b) (P := fun r => ∃ b, r = some (b, ()) ∧ mt_o1 b (l ++ List.replicate k 42) ∧ mt_fr mt_so a b) (N := k) ?_ ?_ k 1000 a 0 (by omega) (by omega) ⟨by rw [List.replicate_zero, List.append_nil]; exact h, mt_fr_r⟩
  · intro n b q
    refine ⟨b, ?_, q⟩
    simp (discharger := omega) only [f_X9_describe_L76, nI_add, mt_mul, nI_clamp, nI_leI, nI_ltI, nI_eq, mt_in_t, mt_b1, mt_b2, mt_b3, mt_b4, mt_l, mt_g, ↓reduceIte, Nat.reduceEqDiff, Nat.reduceLeDiff, ml_0, ml_1, ml_2, ml_3, ml_4, ml_5, ml_6, ml_7, ml_8, ml_9, ml_10, ml_11, ml_12, ml_13, ml_14, ml_16, ml_31, ml_32, ml_40, ml_42, ml_48, ml_50, ml_57, ml_59, ml_60, ml_63, ml_98, ml_100, ml_103, ml_104, ml_105, ml_106, ml_107, ml_108, ml_109, ml_110, ml_111, ml_112, ml_113, ml_114, ml_115, ml_120, ml_127, ml_176, ml_180, ml_200, ml_254, ml_255, ml_256, ml_300, ml_728, ml_832, ml_65536, Nat.le_refl]
  · intro n b i hi q
    obtain ⟨c, e, o, f⟩ := mc_append (c := 42) q.1 (by rw [List.length_append, List.length_replicate]; omega) (by decide)
    have hi' : ¬ k ≤ i := by omega
    left
    refine ⟨c, ⟨?_, mt_fr_t q.2 f⟩, ?_⟩
    · rw [List.replicate_succ', ← List.append_assoc]
      exact o
    · simp (discharger := omega) only [f_X9_describe_L76, nI_add, mt_mul, nI_clamp, nI_leI, nI_ltI, nI_eq, mt_in_t, mt_b1, mt_b2, mt_b3, mt_b4, mt_l, mt_g, ↓reduceIte, Nat.reduceEqDiff, Nat.reduceLeDiff, ml_0, ml_1, ml_2, ml_3, ml_4, ml_5, ml_6, ml_7, ml_8, ml_9, ml_10, ml_11, ml_12, ml_13, ml_14, ml_16, ml_31, ml_32, ml_40, ml_42, ml_48, ml_50, ml_57, ml_59, ml_60, ml_63, ml_98, ml_100, ml_103, ml_104, ml_105, ml_106, ml_107, ml_108, ml_109, ml_110, ml_111, ml_112, ml_113, ml_114, ml_115, ml_120, ml_127, ml_176, ml_180, ml_200, ml_254, ml_255, ml_256, ml_300, ml_728, ml_832, ml_65536, hi', e]
theorem mc_describe {a : fw_M} {g c : Nat} {l : List Nat} (hC : mt_C a 0 σ) (hk : mt_k σ) (hg : g < σ 0) (h : mt_o1 a l) (hl : l.length + 11 ≤ 176) : ∃ b, f_X9_describe a (nI g) = some (b, ()) ∧ mt_o1 b (ms_w1 σ g l) ∧ mt_fr mt_so a b := by
  have h16 := hk.1
  have b1 := (hk.2 g hg).2.1
  have b2 := (hk.2 g hg).2.2.1
  have b3 := ms_pc_lt _ (hk.2 g hg).2.2.2.1
  have rest : ∀ a' l', mt_C a' 0 σ → mt_o1 a' l' → l'.length + 10 ≤ 176 → ∃ b, f_X9_describe_J19 a' (nI g) = some (b, ()) ∧ mt_o1 b ((l' ++ [if σ (4 + 6 * g + 1) = 1 then 115 else 103]) ++ [48 + σ (4 + 6 * g + 2)] ++ List.replicate (ms_pc (σ (4 + 6 * g + 3))) 42) ∧ mt_fr mt_so a' b := by
    intro a' l' hC' h' hl'
    have c1 : a' 0 2 g = nI (σ (4 + 6 * g + 1)) := mt_C_g hC' (w := 1) (by decide) hg
    obtain ⟨u1, e1, o1, f1⟩ := mc_append (c := if σ (4 + 6 * g + 1) = 1 then 115 else 103) h' (by omega) (by split <;> decide)
    have hC1 : mt_C u1 0 σ := mt_C_k hC' (fun f hf => f1 0 f (mt_so_f (by omega)))
    have c2 : u1 0 3 g = nI (σ (4 + 6 * g + 2)) := mt_C_g hC1 (w := 2) (by decide) hg
    obtain ⟨u2, e2, o2, f2⟩ := mc_append (c := 48 + σ (4 + 6 * g + 2)) o1 (by rw [List.length_append]; show l'.length + 1 < 176; omega) (by omega)
    have hC2 : mt_C u2 0 σ := mt_C_k hC1 (fun f hf => f2 0 f (mt_so_f (by omega)))
    have c3 := mc_stainsOn hC2 hk hg
    obtain ⟨u3, e3, o3, f3⟩ := mc_stars (k := ms_pc (σ (4 + 6 * g + 3))) o2 (by rw [List.length_append, List.length_append]; show l'.length + 1 + 1 + _ ≤ 176; omega)
    have z := mt_ch2 (c := 48 + σ (4 + 6 * g + 2)) (by omega)
    refine ⟨u3, ?_, o3, mt_fr_t f1 (mt_fr_t f2 f3)⟩
    by_cases p : σ (4 + 6 * g + 1) = 1
    · rw [if_pos p] at e1
      have l115 : (115 : Int32) = nI 115 := rfl
      simp (discharger := omega) only [f_X9_describe_J19, f_X9_describe_J42, nI_add, mt_mul, nI_clamp, nI_leI, nI_ltI, nI_eq, mt_in_t, mt_b1, mt_b2, mt_b3, mt_b4, mt_l, mt_g, ↓reduceIte, Nat.reduceEqDiff, Nat.reduceLeDiff, ml_0, ml_1, ml_2, ml_3, ml_4, ml_5, ml_6, ml_7, ml_8, ml_9, ml_10, ml_11, ml_12, ml_13, ml_14, ml_16, ml_31, ml_32, ml_40, ml_42, ml_48, ml_50, ml_57, ml_59, ml_60, ml_63, ml_98, ml_100, ml_103, ml_104, ml_105, ml_106, ml_107, ml_108, ml_109, ml_110, ml_111, ml_112, ml_113, ml_114, ml_115, ml_120, ml_127, ml_176, ml_180, ml_200, ml_254, ml_255, ml_256, ml_300, ml_728, ml_832, ml_65536, c1, p, e1, c2, z, e2, c3, e3]
    · have p' : σ (4 + 6 * g + 1) = 0 := by omega
      rw [if_neg p] at e1
      simp (discharger := omega) only [f_X9_describe_J19, f_X9_describe_J42, nI_add, mt_mul, nI_clamp, nI_leI, nI_ltI, nI_eq, mt_in_t, mt_b1, mt_b2, mt_b3, mt_b4, mt_l, mt_g, ↓reduceIte, Nat.reduceEqDiff, Nat.reduceLeDiff, ml_0, ml_1, ml_2, ml_3, ml_4, ml_5, ml_6, ml_7, ml_8, ml_9, ml_10, ml_11, ml_12, ml_13, ml_14, ml_16, ml_31, ml_32, ml_40, ml_42, ml_48, ml_50, ml_57, ml_59, ml_60, ml_63, ml_98, ml_100, ml_103, ml_104, ml_105, ml_106, ml_107, ml_108, ml_109, ml_110, ml_111, ml_112, ml_113, ml_114, ml_115, ml_120, ml_127, ml_176, ml_180, ml_200, ml_254, ml_255, ml_256, ml_300, ml_728, ml_832, ml_65536, c1, p', e1, c2, z, e2, c3, e3]
  unfold ms_w1
  by_cases p : l.length = 0
  · rw [if_pos p]
    obtain ⟨b, e, o, f⟩ := rest a l hC h (by omega)
    refine ⟨b, ?_, o, f⟩
    have h1 := h.1
    rw [p] at h1
    simp (discharger := omega) only [f_X9_describe, nI_add, mt_mul, nI_clamp, nI_leI, nI_ltI, nI_eq, mt_in_t, mt_b1, mt_b2, mt_b3, mt_b4, mt_l, mt_g, ↓reduceIte, Nat.reduceEqDiff, Nat.reduceLeDiff, ml_0, ml_1, ml_2, ml_3, ml_4, ml_5, ml_6, ml_7, ml_8, ml_9, ml_10, ml_11, ml_12, ml_13, ml_14, ml_16, ml_31, ml_32, ml_40, ml_42, ml_48, ml_50, ml_57, ml_59, ml_60, ml_63, ml_98, ml_100, ml_103, ml_104, ml_105, ml_106, ml_107, ml_108, ml_109, ml_110, ml_111, ml_112, ml_113, ml_114, ml_115, ml_120, ml_127, ml_176, ml_180, ml_200, ml_254, ml_255, ml_256, ml_300, ml_728, ml_832, ml_65536, h1, e, Nat.le_refl]
  · rw [if_neg p]
    obtain ⟨u, eu, ou, fu⟩ := mc_append (c := 32) h (by omega) (by decide)
    obtain ⟨b, e, o, f⟩ := rest u (l ++ [32]) (mt_C_k hC (fun f hf => fu 0 f (mt_so_f (by omega)))) ou (by rw [List.length_append]; show l.length + 1 + 10 ≤ 176; omega)
    refine ⟨b, ?_, o, mt_fr_t fu f⟩
    have h1 := h.1
    have p2 : ¬ l.length ≤ 0 := by omega
    simp (discharger := omega) only [f_X9_describe, nI_add, mt_mul, nI_clamp, nI_leI, nI_ltI, nI_eq, mt_in_t, mt_b1, mt_b2, mt_b3, mt_b4, mt_l, mt_g, ↓reduceIte, Nat.reduceEqDiff, Nat.reduceLeDiff, ml_0, ml_1, ml_2, ml_3, ml_4, ml_5, ml_6, ml_7, ml_8, ml_9, ml_10, ml_11, ml_12, ml_13, ml_14, ml_16, ml_31, ml_32, ml_40, ml_42, ml_48, ml_50, ml_57, ml_59, ml_60, ml_63, ml_98, ml_100, ml_103, ml_104, ml_105, ml_106, ml_107, ml_108, ml_109, ml_110, ml_111, ml_112, ml_113, ml_114, ml_115, ml_120, ml_127, ml_176, ml_180, ml_200, ml_254, ml_255, ml_256, ml_300, ml_728, ml_832, ml_65536, h1, p2, eu, e]
theorem mc_bagLoop {c : Nat} (hC : mt_C μ 0 σ) (hk : mt_k σ) (hc : c < 4) (h0 : mt_o1 μ []) : ∃ b, f_X9_writeBag_L13 1000 μ (nI c) (nI 0) = some (b, nI (ms_wo σ c (σ 0)).length, 0) ∧ mt_o1 b (ms_wo σ c (σ 0)) ∧ mt_fr mt_so μ b := by
  have h16 := hk.1
  refine mt_while (L := fun n (b : fw_M) i => f_X9_writeBag_L13 n b (nI c) i) (I := fun i b => mt_o1 b (ms_wo σ c i) ∧ mt_fr mt_so μ b) (P := fun r => ∃ b, r = some (b, nI (ms_wo σ c (σ 0)).length, 0) ∧ mt_o1 b (ms_wo σ c (σ 0)) ∧ mt_fr mt_so μ b) (N := σ 0) ?_ ?_ (σ 0) 1000 μ 0 (by omega) (by omega) ⟨h0, mt_fr_r⟩
  · intro n b q
    have cn : b 0 0 6 = nI (σ 0) := by rw [q.2 0 0 (mt_so_f (by omega))]; exact hC.1
    refine ⟨b, ?_, q⟩
    simp (discharger := omega) only [f_X9_writeBag_L13, nI_add, mt_mul, nI_clamp, nI_leI, nI_ltI, nI_eq, mt_in_t, mt_b1, mt_b2, mt_b3, mt_b4, mt_l, mt_g, ↓reduceIte, Nat.reduceEqDiff, Nat.reduceLeDiff, ml_0, ml_1, ml_2, ml_3, ml_4, ml_5, ml_6, ml_7, ml_8, ml_9, ml_10, ml_11, ml_12, ml_13, ml_14, ml_16, ml_31, ml_32, ml_40, ml_42, ml_48, ml_50, ml_57, ml_59, ml_60, ml_63, ml_98, ml_100, ml_103, ml_104, ml_105, ml_106, ml_107, ml_108, ml_109, ml_110, ml_111, ml_112, ml_113, ml_114, ml_115, ml_120, ml_127, ml_176, ml_180, ml_200, ml_254, ml_255, ml_256, ml_300, ml_728, ml_832, ml_65536, cn, q.1.1, Nat.le_refl]
  · intro n b i hi q
    have hCb : mt_C b 0 σ := mt_C_k hC (fun f hf => q.2 0 f (mt_so_f (by omega)))
    have cn := hCb.1
    have e := mc_isInBagOf hCb hk hi hc
    have hi' : ¬ σ 0 ≤ i := by omega
    have hlen := ms_wo_len (c := c) hk i (by omega)
    left
    by_cases p : σ (4 + 6 * i + 4) = 0 ∧ σ (4 + 6 * i + 0) = c
    · rw [if_pos p] at e
      obtain ⟨d, ed, od, fd⟩ := mc_describe (c := c) hCb hk hi q.1 (by omega)
      refine ⟨d, ⟨?_, mt_fr_t q.2 fd⟩, ?_⟩
      · rw [ms_wo, if_pos p]
        exact od
      · simp (discharger := omega) only [f_X9_writeBag_L13, nI_add, mt_mul, nI_clamp, nI_leI, nI_ltI, nI_eq, mt_in_t, mt_b1, mt_b2, mt_b3, mt_b4, mt_l, mt_g, ↓reduceIte, Nat.reduceEqDiff, Nat.reduceLeDiff, ml_0, ml_1, ml_2, ml_3, ml_4, ml_5, ml_6, ml_7, ml_8, ml_9, ml_10, ml_11, ml_12, ml_13, ml_14, ml_16, ml_31, ml_32, ml_40, ml_42, ml_48, ml_50, ml_57, ml_59, ml_60, ml_63, ml_98, ml_100, ml_103, ml_104, ml_105, ml_106, ml_107, ml_108, ml_109, ml_110, ml_111, ml_112, ml_113, ml_114, ml_115, ml_120, ml_127, ml_176, ml_180, ml_200, ml_254, ml_255, ml_256, ml_300, ml_728, ml_832, ml_65536, cn, hi', e, ed]
    · rw [if_neg p] at e
      refine ⟨b, ⟨?_, q.2⟩, ?_⟩
      · rw [ms_wo, if_neg p]
        exact q.1
      · simp (discharger := omega) only [f_X9_writeBag_L13, nI_add, mt_mul, nI_clamp, nI_leI, nI_ltI, nI_eq, mt_in_t, mt_b1, mt_b2, mt_b3, mt_b4, mt_l, mt_g, ↓reduceIte, Nat.reduceEqDiff, Nat.reduceLeDiff, ml_0, ml_1, ml_2, ml_3, ml_4, ml_5, ml_6, ml_7, ml_8, ml_9, ml_10, ml_11, ml_12, ml_13, ml_14, ml_16, ml_31, ml_32, ml_40, ml_42, ml_48, ml_50, ml_57, ml_59, ml_60, ml_63, ml_98, ml_100, ml_103, ml_104, ml_105, ml_106, ml_107, ml_108, ml_109, ml_110, ml_111, ml_112, ml_113, ml_114, ml_115, ml_120, ml_127, ml_176, ml_180, ml_200, ml_254, ml_255, ml_256, ml_300, ml_728, ml_832, ml_65536, cn, hi', e]
/-- what the reference's writing leaves alone -/
def mt_fw (a b : fw_M) : Prop := (∀ j f, ¬ (j = 0 ∧ (f = 18 ∨ f = 25)) → b j f = a j f) ∧ ∀ i, i ≠ 12 → b 0 18 i = a 0 18 i
theorem mt_fw_t {a b c : fw_M} (h : mt_fw a b) (h' : mt_fw b c) : mt_fw a c := ⟨fun j f q => (h'.1 j f q).trans (h.1 j f q), fun i q => (h'.2 i q).trans (h.2 i q)⟩
theorem mr_stars {K : fw_M → Int32 → Int32 → Option (fw_M × Int32)} {a : fw_M} {l : List Nat} {x1 x2 : Int32} {k : Nat} (h : mt_o2 a l) (hl : l.length + k ≤ 176) : ∃ b, f_X10_writeBag_L121 K 1000 a x1 x2 (nI k) = K b x1 (x2 + (1 : Int32)) ∧ mt_o2 b (l ++ List.replicate k 42) ∧ mt_fw a b := by
  have key : ∀ i n b, i ≤ k → i < n → mt_o2 b (l ++ List.replicate (k - i) 42) → mt_fw a b → ∃ d, f_X10_writeBag_L121 K n b x1 x2 (nI i) = K d x1 (x2 + (1 : Int32)) ∧ mt_o2 d (l ++ List.replicate k 42) ∧ mt_fw a d := by
    intro i
    induction i with
    | zero =>
      intro n b hi hn o f
      obtain ⟨n, rfl⟩ : ∃ q, n = q + 1 := ⟨n - 1, by omega⟩
      refine ⟨b, ?_, o, f⟩
      rw [f_X10_writeBag_L121, if_pos (by decide)]
    | succ i ih =>
      intro n b hi hn o f
      obtain ⟨n, rfl⟩ : ∃ q, n = q + 1 := ⟨n - 1, by omega⟩
      obtain ⟨c, e, oc, fc1, fc2⟩ := mr_writes (c := 42) o (by rw [List.length_append, List.length_replicate]; omega)
      obtain ⟨d, ed, od, fd⟩ := ih n c (by omega) (by omega) (by
        rw [show k - i = k - (i + 1) + 1 by omega, List.replicate_succ', ← List.append_assoc]
        exact oc) (mt_fw_t f ⟨fc1, fc2⟩)
      refine ⟨d, ?_, od, fd⟩
      have h1 : ¬ nI (i + 1) ≤ (0 : Int32) := nI_nle (by omega) (by omega)
      have h2 : nI (i + 1) + (-1 : Int32) = nI i := by
        rw [ml_1, ← Int32.sub_eq_add_neg, mt_sub (by omega), Nat.add_sub_cancel]
      have l42 : (42 : Int32) = nI 42 := rfl
      rw [f_X10_writeBag_L121, if_neg h1, l42, e, mt_b2, h2]
      exact ed
  exact key k 1000 a (Nat.le_refl k) (by omega) (by rw [Nat.sub_self, List.replicate_zero, List.append_nil]; exact h) ⟨fun _ _ _ => rfl, fun _ _ => rfl⟩
theorem mr_bagLoop {c : Nat} (hM : mt_M μ 19 0 σ) (hk : mt_k σ) (hc : c < 4) (h0 : mt_o2 μ []) : ∃ b, f_X10_writeBag_L32 1000 μ (nI c) (nI 0) = some (b, nI (ms_wo σ c (σ 0)).length) ∧ mt_o2 b (ms_wo σ c (σ 0)) ∧ mt_fw μ b := by
  have h16 := hk.1
  refine mt_while (L := fun n (b : fw_M) i => f_X10_writeBag_L32 n b (nI c) i) (I := fun i b => mt_o2 b (ms_wo σ c i) ∧ mt_fw μ b) (P := fun r => ∃ b, r = some (b, nI (ms_wo σ c (σ 0)).length) ∧ mt_o2 b (ms_wo σ c (σ 0)) ∧ mt_fw μ b) (N := σ 0) ?_ ?_ (σ 0) 1000 μ 0 (by omega) (by omega) ⟨h0, fun _ _ _ => rfl, fun _ _ => rfl⟩
  · intro n b q
    have cn := mt_at (mt_M_k hM (q.2.1 0 19 (by omega))) (i := 0) (by decide)
    refine ⟨b, ?_, q⟩
    simp (discharger := omega) only [f_X10_writeBag_L32, nI_add, mt_mul, nI_clamp, nI_leI, nI_ltI, nI_eq, mt_in_t, mt_b1, mt_b2, mt_b3, mt_b4, mt_l, mt_g, ↓reduceIte, Nat.reduceEqDiff, Nat.reduceLeDiff, ml_0, ml_1, ml_2, ml_3, ml_4, ml_5, ml_6, ml_7, ml_8, ml_9, ml_10, ml_11, ml_12, ml_13, ml_14, ml_16, ml_31, ml_32, ml_40, ml_42, ml_48, ml_50, ml_57, ml_59, ml_60, ml_63, ml_98, ml_100, ml_103, ml_104, ml_105, ml_106, ml_107, ml_108, ml_109, ml_110, ml_111, ml_112, ml_113, ml_114, ml_115, ml_120, ml_127, ml_176, ml_180, ml_200, ml_254, ml_255, ml_256, ml_300, ml_728, ml_832, ml_65536, cn, q.1.1, Nat.le_refl]
  · intro n b i hi q
    have hMb : mt_M b 19 0 σ := mt_M_k hM (q.2.1 0 19 (by omega))
    have cn := mt_at hMb (i := 0) (by decide)
    have r0 := mr_of hMb (g := i) (w := 0) (by omega) (by decide)
    have r1 := fun (u : fw_M) (hu : mt_M u 19 0 σ) => mr_of hu (g := i) (w := 1) (by omega) (by decide)
    have r2 := fun (u : fw_M) (hu : mt_M u 19 0 σ) => mr_of hu (g := i) (w := 2) (by omega) (by decide)
    have r3 := fun (u : fw_M) (hu : mt_M u 19 0 σ) => mr_of hu (g := i) (w := 3) (by omega) (by decide)
    have r4 := mr_of hMb (g := i) (w := 4) (by omega) (by decide)
    obtain ⟨b0, b1, b2, b3, b4⟩ := hk.2 i hi
    have b5 := ms_pc_lt _ b3
    have hi' : ¬ σ 0 ≤ i := by omega
    have hlen := ms_wo_len (c := c) hk i (by omega)
    left
    by_cases p : σ (4 + 6 * i + 4) = 0
    · by_cases p2 : σ (4 + 6 * i + 0) = c
      · have rest : ∀ u l', mt_M u 19 0 σ → mt_o2 u l' → l'.length + 10 ≤ 176 → ∃ d, f_X10_writeBag_J77 (f_X10_writeBag_L32 n) u (nI c) (nI i) = f_X10_writeBag_L32 n d (nI c) (nI (i + 1)) ∧ mt_o2 d ((l' ++ [if σ (4 + 6 * i + 1) = 1 then 115 else 103]) ++ [48 + σ (4 + 6 * i + 2)] ++ List.replicate (ms_pc (σ (4 + 6 * i + 3))) 42) ∧ mt_fw u d := by
          intro u l' hu ou hl'
          obtain ⟨u1, e1, o1, f1⟩ := mr_writes (c := if σ (4 + 6 * i + 1) = 1 then 115 else 103) ou (by omega)
          have hu1 : mt_M u1 19 0 σ := mt_M_k hu (f1.1 0 19 (by omega))
          obtain ⟨u2, e2, o2, f2⟩ := mr_writes (c := 48 + σ (4 + 6 * i + 2)) o1 (by rw [List.length_append]; show l'.length + 1 < 176; omega)
          have hu2 : mt_M u2 19 0 σ := mt_M_k hu1 (f2.1 0 19 (by omega))
          obtain ⟨u3, e3, o3, f3⟩ := mr_stars (K := f_X10_writeBag_L32 n) (x1 := nI c) (x2 := nI i) (k := ms_pc (σ (4 + 6 * i + 3))) o2 (by rw [List.length_append, List.length_append]; show l'.length + 1 + 1 + _ ≤ 176; omega)
          have s1 := r1 u hu
          have s2 := r2 u1 hu1
          have s3 := r3 u2 hu2
          rw [show (1 : Int32) = nI 1 from rfl, nI_add] at e3
          refine ⟨u3, ?_, o3, mt_fw_t f1 (mt_fw_t f2 f3)⟩
          by_cases q1 : σ (4 + 6 * i + 1) = 1
          · rw [if_pos q1] at e1
            simp (discharger := omega) only [f_X10_writeBag_J77, f_X10_writeBag_J95, nI_add, mt_mul, nI_clamp, nI_leI, nI_ltI, nI_eq, mt_in_t, mt_b1, mt_b2, mt_b3, mt_b4, mt_l, mt_g, ↓reduceIte, Nat.reduceEqDiff, Nat.reduceLeDiff, ml_0, ml_1, ml_2, ml_3, ml_4, ml_5, ml_6, ml_7, ml_8, ml_9, ml_10, ml_11, ml_12, ml_13, ml_14, ml_16, ml_31, ml_32, ml_40, ml_42, ml_48, ml_50, ml_57, ml_59, ml_60, ml_63, ml_98, ml_100, ml_103, ml_104, ml_105, ml_106, ml_107, ml_108, ml_109, ml_110, ml_111, ml_112, ml_113, ml_114, ml_115, ml_120, ml_127, ml_176, ml_180, ml_200, ml_254, ml_255, ml_256, ml_300, ml_728, ml_832, ml_65536, s1, q1, e1, s2, e2, s3, mr_bits, e3]
          · rw [if_neg q1] at e1
            simp (discharger := omega) only [f_X10_writeBag_J77, f_X10_writeBag_J95, nI_add, mt_mul, nI_clamp, nI_leI, nI_ltI, nI_eq, mt_in_t, mt_b1, mt_b2, mt_b3, mt_b4, mt_l, mt_g, ↓reduceIte, Nat.reduceEqDiff, Nat.reduceLeDiff, ml_0, ml_1, ml_2, ml_3, ml_4, ml_5, ml_6, ml_7, ml_8, ml_9, ml_10, ml_11, ml_12, ml_13, ml_14, ml_16, ml_31, ml_32, ml_40, ml_42, ml_48, ml_50, ml_57, ml_59, ml_60, ml_63, ml_98, ml_100, ml_103, ml_104, ml_105, ml_106, ml_107, ml_108, ml_109, ml_110, ml_111, ml_112, ml_113, ml_114, ml_115, ml_120, ml_127, ml_176, ml_180, ml_200, ml_254, ml_255, ml_256, ml_300, ml_728, ml_832, ml_65536, s1, q1, e1, s2, e2, s3, mr_bits, e3]
        have hw : ms_wo σ c (i + 1) = ms_w1 σ i (ms_wo σ c i) := if_pos ⟨p, p2⟩
        have o0 := q.1.1
        by_cases z : (ms_wo σ c i).length = 0
        · obtain ⟨d, ed, od, fd⟩ := rest b (ms_wo σ c i) hMb q.1 (by omega)
          refine ⟨d, ⟨?_, mt_fw_t q.2 fd⟩, ?_⟩
          · rw [hw]
            unfold ms_w1
            rw [if_pos z]
            exact od
          · rw [z] at o0
            simp (discharger := omega) only [f_X10_writeBag_L32, nI_add, mt_mul, nI_clamp, nI_leI, nI_ltI, nI_eq, mt_in_t, mt_b1, mt_b2, mt_b3, mt_b4, mt_l, mt_g, ↓reduceIte, Nat.reduceEqDiff, Nat.reduceLeDiff, ml_0, ml_1, ml_2, ml_3, ml_4, ml_5, ml_6, ml_7, ml_8, ml_9, ml_10, ml_11, ml_12, ml_13, ml_14, ml_16, ml_31, ml_32, ml_40, ml_42, ml_48, ml_50, ml_57, ml_59, ml_60, ml_63, ml_98, ml_100, ml_103, ml_104, ml_105, ml_106, ml_107, ml_108, ml_109, ml_110, ml_111, ml_112, ml_113, ml_114, ml_115, ml_120, ml_127, ml_176, ml_180, ml_200, ml_254, ml_255, ml_256, ml_300, ml_728, ml_832, ml_65536, cn, hi', r0, r4, p, p2, o0, ed, Nat.le_refl]
        · obtain ⟨u, eu, ou, fu⟩ := mr_writes (c := 32) q.1 (by omega)
          obtain ⟨d, ed, od, fd⟩ := rest u (ms_wo σ c i ++ [32]) (mt_M_k hMb (fu.1 0 19 (by omega))) ou (by rw [List.length_append]; show (ms_wo σ c i).length + 1 + 10 ≤ 176; omega)
          refine ⟨d, ⟨?_, mt_fw_t q.2 (mt_fw_t fu fd)⟩, ?_⟩
          · rw [hw]
            unfold ms_w1
            rw [if_neg z]
            exact od
          · have z2 : ¬ (ms_wo σ c i).length ≤ 0 := by omega
            simp (discharger := omega) only [f_X10_writeBag_L32, nI_add, mt_mul, nI_clamp, nI_leI, nI_ltI, nI_eq, mt_in_t, mt_b1, mt_b2, mt_b3, mt_b4, mt_l, mt_g, ↓reduceIte, Nat.reduceEqDiff, Nat.reduceLeDiff, ml_0, ml_1, ml_2, ml_3, ml_4, ml_5, ml_6, ml_7, ml_8, ml_9, ml_10, ml_11, ml_12, ml_13, ml_14, ml_16, ml_31, ml_32, ml_40, ml_42, ml_48, ml_50, ml_57, ml_59, ml_60, ml_63, ml_98, ml_100, ml_103, ml_104, ml_105, ml_106, ml_107, ml_108, ml_109, ml_110, ml_111, ml_112, ml_113, ml_114, ml_115, ml_120, ml_127, ml_176, ml_180, ml_200, ml_254, ml_255, ml_256, ml_300, ml_728, ml_832, ml_65536, cn, hi', r0, r4, p, p2, o0, z2, eu, ed]
      · refine ⟨b, ⟨?_, q.2⟩, ?_⟩
        · rw [ms_wo, if_neg (fun z => p2 z.2)]
          exact q.1
        · simp (discharger := omega) only [f_X10_writeBag_L32, nI_add, mt_mul, nI_clamp, nI_leI, nI_ltI, nI_eq, mt_in_t, mt_b1, mt_b2, mt_b3, mt_b4, mt_l, mt_g, ↓reduceIte, Nat.reduceEqDiff, Nat.reduceLeDiff, ml_0, ml_1, ml_2, ml_3, ml_4, ml_5, ml_6, ml_7, ml_8, ml_9, ml_10, ml_11, ml_12, ml_13, ml_14, ml_16, ml_31, ml_32, ml_40, ml_42, ml_48, ml_50, ml_57, ml_59, ml_60, ml_63, ml_98, ml_100, ml_103, ml_104, ml_105, ml_106, ml_107, ml_108, ml_109, ml_110, ml_111, ml_112, ml_113, ml_114, ml_115, ml_120, ml_127, ml_176, ml_180, ml_200, ml_254, ml_255, ml_256, ml_300, ml_728, ml_832, ml_65536, cn, hi', r0, r4, p, p2]
    · refine ⟨b, ⟨?_, q.2⟩, ?_⟩
      · rw [ms_wo, if_neg (fun z => p z.1)]
        exact q.1
      · simp (discharger := omega) only [f_X10_writeBag_L32, nI_add, mt_mul, nI_clamp, nI_leI, nI_ltI, nI_eq, mt_in_t, mt_b1, mt_b2, mt_b3, mt_b4, mt_l, mt_g, ↓reduceIte, Nat.reduceEqDiff, Nat.reduceLeDiff, ml_0, ml_1, ml_2, ml_3, ml_4, ml_5, ml_6, ml_7, ml_8, ml_9, ml_10, ml_11, ml_12, ml_13, ml_14, ml_16, ml_31, ml_32, ml_40, ml_42, ml_48, ml_50, ml_57, ml_59, ml_60, ml_63, ml_98, ml_100, ml_103, ml_104, ml_105, ml_106, ml_107, ml_108, ml_109, ml_110, ml_111, ml_112, ml_113, ml_114, ml_115, ml_120, ml_127, ml_176, ml_180, ml_200, ml_254, ml_255, ml_256, ml_300, ml_728, ml_832, ml_65536, cn, hi', r0, r4, p]
theorem pc_writeBag (hR : mt_R B μ) (x : Int32) : mt_A B Eq mt_e1 (f_X9_writeBag μ x) (fun m => f_X10_writeBag m x) := by
  obtain ⟨⟨σ, hC, hM, hok⟩, ⟨k, h, hk8, hHC, hHM, hHo⟩, hV, ⟨n, n60, T1, T2, T3⟩, ⟨v, v1, v2, v3⟩, ⟨w, w1, w2, w3⟩, hO⟩ := id hR
  have hk := hok.1
  rcases mt_cli μ μ x with ⟨c, hc, rfl, q1, q2⟩ | ⟨q1, q2⟩
  · obtain ⟨a, e1, o1, f1⟩ := mc_bagLoop (μ := fw_u μ 0 16 1 (nI 0)) (mt_C_k hC (fun f hf => fw_u_o (by omega))) hk hc ⟨mt_uy rfl, fun i hi => absurd hi (Nat.not_lt_zero i)⟩
    have fa : ∀ j f, ¬ (j = 0 ∧ (f = 16 ∨ f = 17)) → a j f = μ j f := fun j f q => by rw [f1 j f (mt_so_f q), fw_u_o (by omega)]
    obtain ⟨b, e2, o2, f2⟩ := mr_bagLoop (μ := fw_u (fw_u a 0 18 0 (nI 0)) 0 18 12 (nI 0)) (mt_M_k hM (by rw [fw_u_o (by omega), fw_u_o (by omega), fa 0 19 (by omega)])) hk hc ⟨mt_uy rfl, fun i hi => absurd hi (Nat.not_lt_zero i)⟩
    have q2' : f_X10_isClient a (nI c) = some (nI 1) := by
      rcases mt_cli μ a (nI c) with ⟨c', hc', hcc, -, z⟩ | ⟨z, -⟩
      · exact z
      · rw [q1] at z
        have := (nI_eq (by omega) (by omega)).mp (Option.some.inj z)
        omega
    have GE : ∀ j f, ¬ (j = 0 ∧ (f = 16 ∨ f = 17 ∨ f = 18 ∨ f = 25)) → b j f = μ j f := fun j f q => by
      rw [f2.1 j f (by omega), fw_u_o (by omega), fw_u_o (by omega), fa j f (by omega)]
    have g18 : ∀ i, i ≠ 0 → i ≠ 12 → b 0 18 i = μ 0 18 i := fun i r1 r2 => by
      rw [f2.2 i r2, mt_un (by omega), mt_un (by omega), fa 0 18 (by omega)]
    have hlen := ms_wo_len (c := c) hk (σ 0) (Nat.le_refl _)
    have h16 := hk.1
    have hlt := ms_wo_lt (c := c) hk (σ 0) (Nat.le_refl _)
    refine ⟨a, nI (ms_wo σ c (σ 0)).length, 0, b, nI (ms_wo σ c (σ 0)).length, 0, ?_, ?_, ?_, ?_, Or.inl ⟨rfl, rfl, rfl⟩⟩
    · simp (discharger := omega) only [f_X9_writeBag, f_X9_requireClient, f_X5_empty, nI_add, mt_mul, nI_clamp, nI_leI, nI_ltI, nI_eq, mt_in_t, mt_b1, mt_b2, mt_b3, mt_b4, mt_l, mt_g, ↓reduceIte, Nat.reduceEqDiff, Nat.reduceLeDiff, ml_0, ml_1, ml_2, ml_3, ml_4, ml_5, ml_6, ml_7, ml_8, ml_9, ml_10, ml_11, ml_12, ml_13, ml_14, ml_16, ml_31, ml_32, ml_40, ml_42, ml_48, ml_50, ml_57, ml_59, ml_60, ml_63, ml_98, ml_100, ml_103, ml_104, ml_105, ml_106, ml_107, ml_108, ml_109, ml_110, ml_111, ml_112, ml_113, ml_114, ml_115, ml_120, ml_127, ml_176, ml_180, ml_200, ml_254, ml_255, ml_256, ml_300, ml_728, ml_832, ml_65536, q1, e1]
    · simp (discharger := omega) only [f_X10_writeBag, f_X10_writeBag_J13, nI_add, mt_mul, nI_clamp, nI_leI, nI_ltI, nI_eq, mt_in_t, mt_b1, mt_b2, mt_b3, mt_b4, mt_l, mt_g, ↓reduceIte, Nat.reduceEqDiff, Nat.reduceLeDiff, ml_0, ml_1, ml_2, ml_3, ml_4, ml_5, ml_6, ml_7, ml_8, ml_9, ml_10, ml_11, ml_12, ml_13, ml_14, ml_16, ml_31, ml_32, ml_40, ml_42, ml_48, ml_50, ml_57, ml_59, ml_60, ml_63, ml_98, ml_100, ml_103, ml_104, ml_105, ml_106, ml_107, ml_108, ml_109, ml_110, ml_111, ml_112, ml_113, ml_114, ml_115, ml_120, ml_127, ml_176, ml_180, ml_200, ml_254, ml_255, ml_256, ml_300, ml_728, ml_832, ml_65536, q2', mt_uy, e2, Nat.le_refl]
    · rw [f2.2 0 (by omega), mt_un (by omega), mt_uy rfl]
    · refine ⟨⟨σ, mt_C_k hC (fun f hf => GE 0 f (by omega)), mt_M_k hM (GE 0 19 (by omega)), hok⟩, ⟨k, h, hk8, mt_HC_s hHC (fun j f hf hj => GE j f (by omega)) (GE 0 11 (by omega)), mt_HM_s hHM (g18 5 (by omega) (by omega)) (GE 0 22 (by omega)), hHo⟩, ?_, ⟨n, n60, by rw [GE 0 13 (by omega)]; exact T1, by rw [g18 11 (by omega) (by omega)]; exact T2, by rw [GE 0 14 (by omega), GE 0 23 (by omega)]; exact T3⟩, ⟨v, v1, by rw [GE 0 10 (by omega)]; exact v2, by rw [g18 13 (by omega) (by omega)]; exact v3⟩, ⟨w, w1, by rw [GE 0 10 (by omega)]; exact w2, by rw [g18 14 (by omega) (by omega)]; exact w3⟩, ⟨(ms_wo σ c (σ 0)).length, by omega, ?_, o2.1, fun i hi => ⟨(ms_wo σ c (σ 0)).getD i 0, ?_, ?_, o2.2 i hi⟩⟩⟩
      · unfold mt_V
        rw [GE 0 10 (by omega), g18 6 (by omega) (by omega)]
        rcases hV with hV | ⟨va, vb, ρ, vc, vd, ve⟩
        · exact Or.inl hV
        · exact Or.inr ⟨va, vb, ρ, mt_C_k vc (fun f hf => GE 2 f (by omega)), mt_M_k vd (GE 0 21 (by omega)), ve⟩
      · rw [f2.1 0 16 (by omega), fw_u_o (by omega), fw_u_o (by omega)]
        exact o1.1
      · refine hlt _ ?_
        rw [List.getD_eq_getElem?_getD, List.getElem?_eq_getElem hi]
        exact List.getElem_mem hi
      · rw [f2.1 0 17 (by omega), fw_u_o (by omega), fw_u_o (by omega)]
        exact o1.2 i hi
  · refine mt_A_no (k := 1) (t := 1) (r := nI 0) (r2 := nI 0) hR ?_ ?_ ⟨rfl, rfl⟩
    · simp (discharger := omega) only [f_X9_writeBag, f_X9_requireClient, nI_add, mt_mul, nI_clamp, nI_leI, nI_ltI, nI_eq, mt_in_t, mt_b1, mt_b2, mt_b3, mt_b4, mt_l, mt_g, ↓reduceIte, Nat.reduceEqDiff, Nat.reduceLeDiff, ml_0, ml_1, ml_2, ml_3, ml_4, ml_5, ml_6, ml_7, ml_8, ml_9, ml_10, ml_11, ml_12, ml_13, ml_14, ml_16, ml_31, ml_32, ml_40, ml_42, ml_48, ml_50, ml_57, ml_59, ml_60, ml_63, ml_98, ml_100, ml_103, ml_104, ml_105, ml_106, ml_107, ml_108, ml_109, ml_110, ml_111, ml_112, ml_113, ml_114, ml_115, ml_120, ml_127, ml_176, ml_180, ml_200, ml_254, ml_255, ml_256, ml_300, ml_728, ml_832, ml_65536, q1]
    · simp (discharger := omega) only [f_X10_writeBag, f_X10_writeBag_J13, nI_add, mt_mul, nI_clamp, nI_leI, nI_ltI, nI_eq, mt_in_t, mt_b1, mt_b2, mt_b3, mt_b4, mt_l, mt_g, ↓reduceIte, Nat.reduceEqDiff, Nat.reduceLeDiff, ml_0, ml_1, ml_2, ml_3, ml_4, ml_5, ml_6, ml_7, ml_8, ml_9, ml_10, ml_11, ml_12, ml_13, ml_14, ml_16, ml_31, ml_32, ml_40, ml_42, ml_48, ml_50, ml_57, ml_59, ml_60, ml_63, ml_98, ml_100, ml_103, ml_104, ml_105, ml_106, ml_107, ml_108, ml_109, ml_110, ml_111, ml_112, ml_113, ml_114, ml_115, ml_120, ml_127, ml_176, ml_180, ml_200, ml_254, ml_255, ml_256, ml_300, ml_728, ml_832, ml_65536, q2, mt_uy]
end PW
