/-! sums of floats, over the library's laws of floats -/
theorem mf_add1 {q1 q2 : UInt32} (h1 : 1065353216 ≤ q1.toNat) (h2 : q1.toNat ≤ 1090519040) (h3 : q2.toNat ≤ 1098907648) : fw_f32 (FP.fadd q1 q2) = true ∧ 1065353216 ≤ (FP.fadd q1 q2).toNat ∧ (FP.fadd q1 q2).toNat < 2147483648 ∧ mf_u (FP.fadd q1 q2).toNat ≤ 32 * 2 ^ 149 ∧ fw_f64 (FP.f2d (FP.fadd q1 q2)) = true ∧ Op.cmpValue (FP.dcmp (FP.f2d (FP.fadd q1 q2)) (FP.f2d (FP.fadd q1 q2))) CmpOp.l = 0 := sorry
theorem mf_S0 : mf_P FP.fconst0 := by
  unfold mf_P
  decide +kernel
theorem mf_S (own : Nat) (h1 : own < 6) (h : Nat) (h2 : h < 181) (pay : Nat) (h3 : pay < 5) (h4 : 40 ≤ h) (h5 : 1 ≤ pay) : mf_P (ms_cost h own pay) ∧ (1 ≤ own → 1065353216 ≤ (ms_cost h own pay).toNat) := by
  unfold ms_cost
  by_cases h0 : own = 0
  · rw [if_pos h0]
    exact ⟨mf_S0, fun z => by omega⟩
  · rw [if_neg h0]
    obtain ⟨a1, a2⟩ := mf_A2 own h1 (by omega)
    obtain ⟨b1, b2, b3, b4, b5, b6⟩ := mf_add1 a1 a2 (mf_B3 h h2 pay h3 h4 h5)
    exact ⟨⟨b1, Or.inr b2, b3, b4, b5, b6⟩, fun _ => b2⟩
theorem mf_ti {p : Nat} (h : p < 2 ^ 31) : (nI p).toUInt32.toNat = p := by
  show (UInt32.ofNat p).toNat = p
  exact Nat.mod_eq_of_lt (by omega)
theorem mf_it (s : UInt32) : s.toInt32 = nI s.toNat := by
  show s.toInt32 = (UInt32.ofNat s.toNat).toInt32
  rw [UInt32.ofNat_toNat]
theorem mf_mono {r p : Nat} (h : mt_F r p) : mt_F (r + 1) p := ⟨h.1, h.2.1, Nat.le_trans h.2.2 (Nat.mul_le_mul_right _ (by omega))⟩
theorem mf_add0 {r p : Nat} (h : mt_F r p) : FP.fadd (nI p).toUInt32 FP.fconst0 = (nI p).toUInt32 := sorry
theorem mf_add {r p : Nat} {q : UInt32} (h : mt_F r p) (hr : r < 131072) (hq : mf_P q) (hq0 : 1065353216 ≤ q.toNat) : fw_f32 (FP.fadd (nI p).toUInt32 q) = true ∧ mt_F (r + 1) (FP.fadd (nI p).toUInt32 q).toNat := sorry
theorem mf_bits {μ : fw_M} {r p : Nat} (h : mt_F r p) : f_X9_bitsOf μ (nI p).toUInt32 = some (nI p) := sorry
theorem mf_itb {μ : fw_M} {r p : Nat} (h : mt_F r p) : f_Jxf58ca_floatToIntBits_5c35a μ (nI p).toUInt32 = some (nI p) := sorry
theorem mf_f2d {r p : Nat} (h : mt_F r p) : fw_f32 (nI p).toUInt32 = true ∧ fw_f64 (FP.f2d (nI p).toUInt32) = true ∧ Op.cmpValue (FP.dcmp (FP.f2d (nI p).toUInt32) (FP.f2d (nI p).toUInt32)) CmpOp.l = 0 := sorry
theorem mf_ns {r p : Nat} (h : mt_F r p) : fw_ns (nI p) = true := sorry
