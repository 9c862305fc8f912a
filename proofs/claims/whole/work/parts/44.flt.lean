/-! prices: what of them is decided case by case -/
def mf_w (h : Nat) : UInt32 := FP.fdiv (FP.i2f (nI h)) FP.fconst2
def mf_c1 (own : Nat) : UInt32 := FP.d2f (FP.dmul 4608308318706860032 (FP.i2d (nI own)))
def mf_c2 (h pay : Nat) : UInt32 := FP.d2f (FP.ddiv (FP.dmul (FP.f2d (mf_w h)) 4593671619917905920) (FP.i2d (nI pay)))
theorem mf_A : ∀ own, own < 6 → fw_f64 (FP.dmul 4608308318706860032 (FP.i2d (nI own))) = true ∧ fw_f32 (mf_c1 own) = true ∧ FP.fmul 1067450368 (FP.i2f (nI own)) = mf_c1 own := by decide +kernel
theorem mf_A2 : ∀ own, own < 6 → 1 ≤ own → 1065353216 ≤ (mf_c1 own).toNat ∧ (mf_c1 own).toNat ≤ 1090519040 := by decide +kernel
theorem mf_W1 : ∀ h, h < 181 → fw_f32 (mf_w h) = true := by decide +kernel
theorem mf_W2 : ∀ h, h < 181 → FP.fmul (FP.i2f (nI h)) 1056964608 = mf_w h := by decide +kernel
theorem mf_W3 : ∀ h, h < 181 → fw_f64 (FP.f2d (mf_w h)) = true := by decide +kernel
theorem mf_W4 : ∀ h, h < 181 → fw_f64 (FP.dmul (FP.f2d (mf_w h)) 4593671619917905920) = true := by decide +kernel
theorem mf_W5 : ∀ h, h < 181 → fw_f32 (FP.fmul (mf_w h) 1040187392) = true := by decide +kernel
theorem mf_W6 : ∀ h, h < 181 → Op.cmpValue (FP.dcmp (FP.f2d (mf_w h)) (FP.f2d (mf_w h))) CmpOp.l = 0 := by decide +kernel
theorem mf_W (h : Nat) (q : h < 181) : fw_f32 (mf_w h) = true ∧ FP.fmul (FP.i2f (nI h)) 1056964608 = mf_w h ∧ fw_f64 (FP.f2d (mf_w h)) = true ∧ fw_f64 (FP.dmul (FP.f2d (mf_w h)) 4593671619917905920) = true ∧ fw_f32 (FP.fmul (mf_w h) 1040187392) = true ∧ Op.cmpValue (FP.dcmp (FP.f2d (mf_w h)) (FP.f2d (mf_w h))) CmpOp.l = 0 := ⟨mf_W1 h q, mf_W2 h q, mf_W3 h q, mf_W4 h q, mf_W5 h q, mf_W6 h q⟩
theorem mf_B1 : ∀ h, h < 181 → ∀ pay, pay < 5 → 40 ≤ h → 1 ≤ pay → fw_f64 (FP.ddiv (FP.dmul (FP.f2d (mf_w h)) 4593671619917905920) (FP.i2d (nI pay))) = true := by decide +kernel
theorem mf_B2 : ∀ h, h < 181 → ∀ pay, pay < 5 → 40 ≤ h → 1 ≤ pay → FP.fdiv (FP.fmul (mf_w h) 1040187392) (FP.i2f (nI pay)) = mf_c2 h pay := by decide +kernel
theorem mf_B3 : ∀ h, h < 181 → ∀ pay, pay < 5 → 40 ≤ h → 1 ≤ pay → (mf_c2 h pay).toNat ≤ 1098907648 := by decide +kernel
theorem mf_B4 {q : UInt32} (h : q.toNat ≤ 1098907648) : fw_f32 q = true := by
  unfold fw_f32
  refine decide_eq_true ?_
  rw [UInt32.le_iff_toNat_le, UInt32.toNat_and]
  refine Nat.le_trans Nat.and_le_left (Nat.le_trans h ?_)
  decide
theorem mf_B (h : Nat) (q : h < 181) (pay : Nat) (q2 : pay < 5) (q3 : 40 ≤ h) (q4 : 1 ≤ pay) : fw_f64 (FP.ddiv (FP.dmul (FP.f2d (mf_w h)) 4593671619917905920) (FP.i2d (nI pay))) = true ∧ fw_f32 (mf_c2 h pay) = true ∧ FP.fdiv (FP.fmul (mf_w h) 1040187392) (FP.i2f (nI pay)) = mf_c2 h pay := ⟨mf_B1 h q pay q2 q3 q4, mf_B4 (mf_B3 h q pay q2 q3 q4), mf_B2 h q pay q2 q3 q4⟩
def ms_cost (h own pay : Nat) : UInt32 := if own = 0 then FP.fconst0 else FP.fadd (mf_c1 own) (mf_c2 h pay)
/-- a price: 0, or at least 1 and at most 32 -/
def mf_P (q : UInt32) : Prop := fw_f32 q = true ∧ (q = 0 ∨ 1065353216 ≤ q.toNat) ∧ q.toNat < 2147483648 ∧ mf_u q.toNat ≤ 32 * 2 ^ 149 ∧ fw_f64 (FP.f2d q) = true ∧ Op.cmpValue (FP.dcmp (FP.f2d q) (FP.f2d q)) CmpOp.l = 0
