/-! a name of the library's float laws: it makes every round read the whole library from the first part on -/
theorem zf_wide (a b : UInt32) : FP.Core.val32 (FP.Core.fadd a b) = FP.Core.round FP.Core.b32 (FP.Core.exactSum (FP.Core.val32 a) (FP.Core.val32 b)) := FP.Core.val32_fadd a b
