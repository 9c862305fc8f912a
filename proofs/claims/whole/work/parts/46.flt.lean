/-! the mathematics, 7: sums of floats (to be closed over the library's laws of floats) -/
theorem mf_ti {p : Nat} (h : p < 2 ^ 31) : (nI p).toUInt32.toNat = p := by
  show (UInt32.ofNat p).toNat = p
  exact Nat.mod_eq_of_lt (by omega)
theorem mf_it (s : UInt32) : s.toInt32 = nI s.toNat := by
  show s.toInt32 = (UInt32.ofNat s.toNat).toInt32
  rw [UInt32.ofNat_toNat]
theorem mf_mono {r p : Nat} (h : mt_F r p) : mt_F (r + 1) p := ⟨h.1, h.2.1, Nat.le_trans h.2.2 (Nat.mul_le_mul_right _ (by omega))⟩
theorem mf_add0 {r p : Nat} (h : mt_F r p) : FP.fadd (nI p).toUInt32 FP.fconst0 = (nI p).toUInt32 := sorry
theorem mf_add {r p : Nat} {q : UInt32} (h : mt_F r p) (hr : r < 131072) (hq : mf_P q) (hq0 : 1065353216 ≤ q.toNat) : fw_f32 (FP.fadd (nI p).toUInt32 q) = true ∧ mt_F (r + 1) (FP.fadd (nI p).toUInt32 q).toNat := sorry
theorem mf_bits {μ : fw_M} {r p : Nat} (h : mt_F r p) : f_X9_bitsOf μ (nI p).toUInt32 = some (nI p) := sorry
theorem mf_itb {μ : fw_M} {r p : Nat} (h : mt_F r p) : f_Jxf58ca_floatToIntBits_5c35a μ (nI p).toUInt32 = some (nI p) := sorry
theorem mf_f2d {r p : Nat} (h : mt_F r p) : fw_f32 (nI p).toUInt32 = true ∧ fw_f64 (FP.f2d (nI p).toUInt32) = true ∧ Op.cmpValue (FP.dcmp (FP.f2d (nI p).toUInt32) (FP.f2d (nI p).toUInt32)) CmpOp.l = 0 := sorry
theorem mf_ns {r p : Nat} (h : mt_F r p) : fw_ns (nI p) = true := sorry
