/-! sums of floats, over the library's laws of floats -/
theorem mf_ti {p : Nat} (h : p < 2 ^ 31) : (nI p).toUInt32.toNat = p := by
  show (UInt32.ofNat p).toNat = p
  exact Nat.mod_eq_of_lt (by omega)
theorem mf_it (s : UInt32) : s.toInt32 = nI s.toNat := by
  show s.toInt32 = (UInt32.ofNat s.toNat).toInt32
  rw [UInt32.ofNat_toNat]
theorem mf_ut0 (s : UInt32) : (nI s.toNat).toUInt32 = s := by
  show UInt32.ofNat s.toNat = s
  exact UInt32.ofNat_toNat
theorem mf_mono {r p : Nat} (h : mt_F r p) : mt_F (r + 1) p := ⟨h.1, h.2.1, Nat.le_trans h.2.2 (Nat.mul_le_mul_right _ (by omega))⟩
theorem mf_uu (p : Nat) : FP.Core.unitsOf FP.Core.b32 p = mf_u p := by
  unfold FP.Core.unitsOf mf_u
  rw [FP.Core.tails_b32]
theorem mf_lt {p q : Nat} : mf_u p < mf_u q ↔ p < q := by
  rw [← mf_uu, ← mf_uu]
  exact FP.Core.unitsOf_lt_iff
/-- a float that is no NaN: its bits, the double made of it -/
theorem mf_q {a : UInt32} (h : a.toNat % 2 ^ 31 ≤ 2139095040) : fw_f32 a = true ∧ fw_f64 (FP.f2d a) = true ∧ Op.cmpValue (FP.dcmp (FP.f2d a) (FP.f2d a)) CmpOp.l = 0 := by
  have hn : FP.Core.fIsNaN a = false := by
    rw [FP.Core.notNaN_iff32, FP.Core.ne_nan32]
    exact h
  have hd : FP.Core.dIsNaN (FP.f2d a) = false := (FP.f2d_nan a).trans hn
  refine ⟨decide_eq_true ?_, decide_eq_true ?_, ?_⟩
  · rw [UInt32.le_iff_toNat_le, FP.Core.mask_toNat32]
    exact h
  · rw [FP.Core.notNaN_iff, FP.Core.ne_nan] at hd
    rw [UInt64.le_iff_toNat_le, FP.Core.mask_toNat]
    exact hd
  · have : FP.dcmp (FP.f2d a) (FP.f2d a) = some .eq := FP.Core.dcmp_refl hd
    rw [this]
    decide
theorem mf_fin {a : UInt32} (h : a.toNat < 2139095040) : FP.Core.FFin a := by
  rw [FP.Core.fin_bits32, Nat.mod_eq_of_lt (by omega)]
  exact h
/-- what a float without sign is worth, in units of its least number -/
theorem mf_z {a : UInt32} (h : a.toNat ≤ 2139095040) : FP.Core.zval FP.Core.b32 (FP.Core.val32 a) = (mf_u a.toNat : Int) := by
  have h1 := FP.Core.zval_decode FP.Core.good_b32 (n := a.toNat) (FP.Core.lt_full32 a) ((FP.Core.ne_nan32 a).mpr (by rw [Nat.mod_eq_of_lt (by omega)]; exact h))
  have h2 : ¬ FP.Core.half FP.Core.b32 ≤ a.toNat := by rw [FP.Core.half_b32]; omega
  have h3 : FP.Core.mag FP.Core.b32 a.toNat = a.toNat := by rw [FP.Core.mag_toNat32, Nat.mod_eq_of_lt (by omega)]
  rw [h3, mf_uu, decide_eq_false h2] at h1
  exact h1
theorem mf_one : mf_u 1065353216 = 2 ^ 149 := by decide +kernel
theorem mf_top : mf_u 1317011456 = 2 ^ 30 * 2 ^ 149 := by decide +kernel
theorem mf_sum {a b : UInt32} {n : Nat} (ha : a.toNat < 2139095040) (hb : b.toNat < 2139095040) (h1 : 1065353216 ≤ a.toNat ∨ 1065353216 ≤ b.toNat) (hn : n ≤ 2 ^ 24) (h2 : mf_u a.toNat + mf_u b.toNat ≤ n * 2 ^ 149) : 1065353216 ≤ (FP.fadd a b).toNat ∧ (FP.fadd a b).toNat ≤ 2139095040 ∧ mf_u (FP.fadd a b).toNat ≤ n * 2 ^ 149 := by
  have fa := mf_fin ha
  have fb := mf_fin hb
  have za := mf_z (a := a) (by omega)
  have zb := mf_z (a := b) (by omega)
  have hs : FP.Core.fIsNaN (FP.fadd a b) = false := FP.Core.fadd_out fa.notNaN fb
  have hs2 := (FP.Core.notNaN_iff32 _).mp hs
  have v1n : (nI 1065353216).toUInt32.toNat = 1065353216 := mf_ti (by decide)
  have z1 := mf_z (a := (nI 1065353216).toUInt32) (by rw [v1n]; decide)
  rw [v1n, mf_one] at z1
  have u1 : mf_u 1065353216 ≤ mf_u a.toNat + mf_u b.toNat := by
    rcases h1 with h1 | h1
    · have : ¬ mf_u a.toNat < mf_u 1065353216 := fun z => by rw [mf_lt] at z; omega
      omega
    · have : ¬ mf_u b.toNat < mf_u 1065353216 := fun z => by rw [mf_lt] at z; omega
      omega
  rw [mf_one] at u1
  have lo := FP.Core.sum_ge FP.Core.good_b32 (V := FP.Core.val32 (nI 1065353216).toUInt32) fa fb (FP.Core.val32_fits a) (FP.Core.val32_fits b) (FP.Core.val32_fits _) ((FP.Core.ne_nan32 _).mpr (by rw [v1n]; decide)) (by rw [z1, za, zb]; omega)
  rw [← FP.Core.val32_fadd, z1] at lo
  have hI : FP.Core.FInt ((nI n).toInt) (FP.Core.i2f (nI n)) := FP.Core.i2f_int (by rw [nI_toInt (by omega)]; exact hn)
  rw [nI_toInt (by omega)] at hI
  have zn := FP.Core.FInt_zval hI
  have hi := FP.Core.sum_le FP.Core.good_b32 (V := FP.Core.val32 (FP.Core.i2f (nI n))) fa fb (FP.Core.val32_fits a) (FP.Core.val32_fits b) (FP.Core.val32_fits _) (FP.Core.FInt_ne_nan hI) (by
    rw [zn, za, zb]
    show _ ≤ (n : Int) * ((2 ^ 149 : Nat) : Int)
    exact_mod_cast h2)
  rw [← FP.Core.val32_fadd, zn] at hi
  have pos : (FP.fadd a b).toNat < 2 ^ 31 := by
    apply Nat.lt_of_not_le
    intro z
    have this : FP.Core.zval FP.Core.b32 (FP.Core.val32 (FP.Core.fadd a b)) ≤ 0 := FP.Core.zval_nonpos32 hs2 z
    have h3 : (0 : Int) < ((2 ^ 149 : Nat) : Int) := by decide
    have h4 : ((2 ^ 149 : Nat) : Int) ≤ FP.Core.zval FP.Core.b32 (FP.Core.val32 (FP.Core.fadd a b)) := lo
    omega
  have bd : (FP.fadd a b).toNat ≤ 2139095040 := by
    have := (FP.Core.ne_nan32 (FP.fadd a b)).mp hs2
    rw [Nat.mod_eq_of_lt pos] at this
    exact this
  have zs := mf_z bd
  have lo' : ((2 ^ 149 : Nat) : Int) ≤ (mf_u (FP.fadd a b).toNat : Int) := by rw [← zs]; exact lo
  have hi' : (mf_u (FP.fadd a b).toNat : Int) ≤ (n : Int) * ((2 ^ 149 : Nat) : Int) := by rw [← zs]; exact hi
  refine ⟨?_, bd, by exact_mod_cast hi'⟩
  have lo2 : 2 ^ 149 ≤ mf_u (FP.fadd a b).toNat := by exact_mod_cast lo'
  apply Nat.le_of_not_lt
  intro z
  rw [← mf_lt, mf_one] at z
  omega
theorem mf_add {r p : Nat} {q : UInt32} (h : mt_F r p) (hr : r < 131072) (hq : mf_P q) (hq0 : 1065353216 ≤ q.toNat) : fw_f32 (FP.fadd (nI p).toUInt32 q) = true ∧ mt_F (r + 1) (FP.fadd (nI p).toUInt32 q).toNat := by
  obtain ⟨h1, h2, h3⟩ := h
  obtain ⟨-, -, q1, q2, -, -⟩ := hq
  have hp : (nI p).toUInt32.toNat = p := mf_ti (by omega)
  have hqf : q.toNat < 2139095040 := by
    apply Nat.lt_of_not_le
    intro z
    have k : mf_u 1317011456 < mf_u q.toNat := mf_lt.mpr (by omega)
    rw [mf_top] at k
    omega
  obtain ⟨s1, s2, s3⟩ := mf_sum (a := (nI p).toUInt32) (b := q) (n := 32 * (r + 1)) (by omega) hqf (Or.inr hq0) (by omega) (by
    rw [hp]
    have : 32 * (r + 1) * 2 ^ 149 = 32 * r * 2 ^ 149 + 32 * 2 ^ 149 := by rw [Nat.mul_add, Nat.add_mul]
    omega)
  have s4 : (FP.fadd (nI p).toUInt32 q).toNat < 1317011456 := by
    rw [← mf_lt, mf_top]
    refine Nat.lt_of_le_of_lt s3 ?_
    exact Nat.mul_lt_mul_of_pos_right (by omega) (Nat.two_pow_pos 149)
  exact ⟨(mf_q (by omega)).1, Or.inr s1, s4, s3⟩
theorem mf_add0 {r p : Nat} (h : mt_F r p) : FP.fadd (nI p).toUInt32 FP.fconst0 = (nI p).toUInt32 := by
  obtain ⟨h1, h2, h3⟩ := h
  have hp : (nI p).toUInt32.toNat = p := mf_ti (by omega)
  rcases h1 with rfl | h1
  · decide +kernel
  · have hz : FP.Core.FZero FP.fconst0 := by
      rw [FP.Core.zero_bits232]
      decide
    have e := (FP.Core.fadd_zero_eq (mf_fin (a := (nI p).toUInt32) (by omega)) hz).1
    refine FP.Core.eq_bits32 ?_ e
    rw [FP.Core.zero_bits232, hp, Nat.mod_eq_of_lt (by omega)]
    omega
theorem mf_f2d {r p : Nat} (h : mt_F r p) : fw_f32 (nI p).toUInt32 = true ∧ fw_f64 (FP.f2d (nI p).toUInt32) = true ∧ Op.cmpValue (FP.dcmp (FP.f2d (nI p).toUInt32) (FP.f2d (nI p).toUInt32)) CmpOp.l = 0 := mf_q (by
  have h2 := h.2.1
  rw [mf_ti (by omega), Nat.mod_eq_of_lt (by omega)]
  omega)
theorem mf_nan {p : Nat} (h2 : p < 1317011456) : FP.Core.fIsNaN (nI p).toUInt32 = false := by
  rw [FP.Core.notNaN_iff32, FP.Core.ne_nan32, mf_ti (by omega), Nat.mod_eq_of_lt (by omega)]
  omega
theorem mf_itb {μ : fw_M} {r p : Nat} (h : mt_F r p) : f_Jxf58ca_floatToIntBits_5c35a μ (nI p).toUInt32 = some (nI p) := by
  have e : FP.fcmp (nI p).toUInt32 (nI p).toUInt32 = some .eq := FP.Core.fcmp_refl (mf_nan h.2.1)
  unfold f_Jxf58ca_floatToIntBits_5c35a f_Jxf58ca_isNaN_12338
  rw [e, if_pos (by decide), mt_b1, if_pos rfl]
  rfl
theorem mf_ns {r p : Nat} (h : mt_F r p) : fw_ns (nI p) = true := by
  have h2 := h.2.1
  have z : ¬ ((nI p).toUInt32 &&& 0x7fffffff > 0x7f800000) := by
    show ¬ ((0x7f800000 : UInt32) < (nI p).toUInt32 &&& 0x7fffffff)
    rw [UInt32.lt_iff_toNat_lt, FP.Core.mask_toNat32, mf_ti (by omega), Nat.mod_eq_of_lt (by omega)]
    show ¬ 2139095040 < p
    omega
  unfold fw_ns vn_sni2f
  rw [decide_eq_false z]
  rfl
/-! the bits of a float, worked out -/
theorem mf_dec {E T : Nat} (h1 : 1 ≤ E) (h2 : E ≤ 254) (hT : T < 8388608) : FP.Core.val32 (nI (E * 8388608 + T)).toUInt32 = .fin false (8388608 + T) (-149 + ((E : Int) - 1)) := by
  have hn : (nI (E * 8388608 + T)).toUInt32.toNat = E * 8388608 + T := mf_ti (by omega)
  have e := FP.Core.decode_assemble FP.Core.b32 false E T (by show E < 2 ^ 8; omega) (by rw [FP.Core.tails_b32]; exact hT)
  have ea : FP.Core.assemble FP.Core.b32 false E T = E * 8388608 + T := by
    unfold FP.Core.assemble
    rw [FP.Core.tails_b32]
    show (0 * _ + E) * 2 ^ 23 + T = _
    rw [Nat.zero_mul, Nat.zero_add]
  rw [ea, if_neg (by rw [FP.Core.exps_b32]; omega), if_neg (by omega), FP.Core.tails_b32, FP.Core.qmin_b32] at e
  show FP.Core.decode FP.Core.b32 (nI (E * 8388608 + T)).toUInt32.toNat = _
  rw [hn, e]
theorem mf_two : FP.Core.val32 FP.fconst2 = .fin false 8388608 (-22) := by decide +kernel
theorem mf_onev : FP.Core.val32 FP.fconst1 = .fin false 8388608 (-23) := by decide +kernel
theorem mf_big : FP.Core.val32 1258291200 = .fin false 8388608 0 := by decide +kernel
theorem mf_half {E T : Nat} (h1 : 2 ≤ E) (h2 : E ≤ 254) (hT : T < 8388608) : FP.fdiv (nI (E * 8388608 + T)).toUInt32 FP.fconst2 = (nI ((E - 1) * 8388608 + T)).toUInt32 := by
  have d1 := mf_dec (E := E) (T := T) (by omega) h2 hT
  have d2 := mf_dec (E := E - 1) (T := T) (by omega) (by omega) hT
  have hfit := FP.Core.val32_fits (nI ((E - 1) * 8388608 + T)).toUInt32
  rw [d2] at hfit
  have e : FP.Core.val32 (FP.fdiv (nI (E * 8388608 + T)).toUInt32 FP.fconst2) = FP.Core.val32 (nI ((E - 1) * 8388608 + T)).toUInt32 := by
    rw [FP.Core.val32_fdiv, d1, mf_two, d2]
    show FP.Core.roundRatio FP.Core.b32 false (8388608 + T) 8388608 (-149 + ((E : Int) - 1) - (-22)) = _
    refine FP.Core.roundRatio_exact FP.Core.good_b32 (by decide) hfit ?_
    rw [show (-149 + ((E : Int) - 1) - (-22) - (-149 + (((E - 1 : Nat) : Int) - 1))).toNat = 23 by omega, show (-149 + (((E - 1 : Nat) : Int) - 1) - (-149 + ((E : Int) - 1) - (-22))).toNat = 0 by omega]
    omega
  refine FP.Core.val32_inj ?_ e
  rw [e, d2]
  exact FP.Core.Datum.noConfusion
theorem mf_frac {T : Nat} (hT : T < 8388608) : fw_f32 (FP.fsub (nI (127 * 8388608 + T)).toUInt32 FP.fconst1) = true ∧ fw_f32 (FP.fmul (FP.fsub (nI (127 * 8388608 + T)).toUInt32 FP.fconst1) 1258291200) = true ∧ FP.f2i (FP.fmul (FP.fsub (nI (127 * 8388608 + T)).toUInt32 FP.fconst1) 1258291200) = nI T := by
  have d1 := mf_dec (E := 127) (T := T) (by omega) (by omega) hT
  have e1 : FP.Core.exactSum (.fin false (8388608 + T) (-149 + (((127 : Nat) : Int) - 1))) (FP.Core.negate (.fin false 8388608 (-23))) = .fin false T (-23) := by
    have hu : FP.Core.sumUnits false (8388608 + T) (-23) true 8388608 (-23) (-23) = (T : Int) := by
      show ((((8388608 + T) * 2 ^ 0 : Nat)) : Int) + -(((8388608 * 2 ^ 0 : Nat)) : Int) = _
      omega
    show FP.Core.Datum.fin (FP.Core.sumSign false true (FP.Core.sumUnits false (8388608 + T) (-23) true 8388608 (-23) (-23))) (FP.Core.sumUnits false (8388608 + T) (-23) true 8388608 (-23) (-23)).natAbs (-23) = _
    rw [hu]
    have hs : FP.Core.sumSign false true (T : Int) = false := by
      unfold FP.Core.sumSign
      split
      · rfl
      · exact decide_eq_false (by omega)
    rw [hs, Int.natAbs_natCast]
  obtain ⟨c, q, r1, r2⟩ := FP.Core.round_exact FP.Core.good_b32 false (c := T) (q := -23) (by show T < 2 ^ 24; omega) (by rw [FP.Core.qmin_b32]; omega) (by decide)
  have v1 : FP.Core.val32 (FP.fsub (nI (127 * 8388608 + T)).toUInt32 FP.fconst1) = .fin false c q := by
    rw [FP.Core.val32_fsub, d1, mf_onev, e1, r1]
  have hfit := FP.Core.val32_fits (FP.fsub (nI (127 * 8388608 + T)).toUInt32 FP.fconst1)
  rw [v1] at hfit
  have hq := hfit.2.1
  rw [FP.Core.qmin_b32] at hq
  rw [FP.Core.qmin_b32] at r2
  have r3 : c * 2 ^ (q + 149).toNat = T * 2 ^ 126 := by
    have : FP.Core.inUnits c q (-149) = c * 2 ^ (q + 149).toNat := by
      unfold FP.Core.inUnits
      rw [show q - (-149) = q + 149 by omega]
    rw [← this, r2]
    rfl
  have hw : FP.Core.Whole (T : Int) (.fin false (c * 8388608) (q + 0)) := by
    show FP.Core.signed false (c * 8388608 * 2 ^ (q + 0).toNat) = (T : Int) * ((2 ^ (-(q + 0)).toNat : Nat) : Int)
    show ((c * 8388608 * 2 ^ (q + 0).toNat : Nat) : Int) = _
    rw [Int.add_zero]
    by_cases hq0 : q ≤ 0
    · obtain ⟨k, rfl⟩ : ∃ k : Nat, q = -(k : Int) := ⟨(-q).toNat, by omega⟩
      rw [show (-(k : Int)).toNat = 0 by omega, show (- -(k : Int)).toNat = k by omega]
      rw [show (-(k : Int) + 149).toNat = 149 - k by omega] at r3
      have hk : k ≤ 149 := by omega
      have : c * 8388608 * 2 ^ 0 = T * 2 ^ k := by
        apply Nat.eq_of_mul_eq_mul_right (Nat.two_pow_pos (149 - k))
        rw [Nat.mul_assoc T, ← Nat.pow_add, show k + (149 - k) = 149 by omega, Nat.pow_zero, Nat.mul_one, Nat.mul_right_comm, r3, Nat.mul_assoc]
      rw [this]
      exact_mod_cast rfl
    · have hc : c = 0 := by
        apply Classical.byContradiction
        intro hc
        have h1 : 2 ^ 150 ≤ 2 ^ (q + 149).toNat := Nat.pow_le_pow_right (by decide) (by omega)
        have h2 : 1 * 2 ^ 150 ≤ c * 2 ^ (q + 149).toNat := Nat.mul_le_mul (by omega) h1
        rw [r3] at h2
        have h3 : T * 2 ^ 126 < 8388608 * 2 ^ 126 := Nat.mul_lt_mul_of_pos_right hT (Nat.two_pow_pos 126)
        have h4 : 8388608 * 2 ^ 126 < 1 * 2 ^ 150 := by decide
        omega
      have hT0 : T = 0 := by
        rw [hc, Nat.zero_mul] at r3
        have := Nat.two_pow_pos 126
        rcases Nat.mul_eq_zero.mp r3.symm with z | z
        · exact z
        · omega
      rw [hc, hT0]
      simp
  have v2 : FP.Core.val32 (FP.fmul (FP.fsub (nI (127 * 8388608 + T)).toUInt32 FP.fconst1) 1258291200) = FP.Core.round FP.Core.b32 (.fin false (c * 8388608) (q + 0)) := by
    rw [FP.Core.val32_fmul, v1, mf_big]
    rfl
  have hI : FP.Core.FInt ((nI T).toInt) (FP.fmul (FP.fsub (nI (127 * 8388608 + T)).toUInt32 FP.fconst1) 1258291200) := by
    rw [nI_toInt (by omega)]
    show FP.Core.Whole (T : Int) (FP.Core.val32 _)
    rw [v2]
    exact FP.Core.whole_round FP.Core.good_b32 FP.Core.wide_b32 (by show T ≤ 2 ^ 24; omega) hw
  refine ⟨(mf_q ((FP.Core.ne_nan32 _).mp ?_)).1, (mf_q ((FP.Core.ne_nan32 _).mp (FP.Core.FInt_ne_nan hI))).1, FP.Core.f2i_int hI⟩
  rw [v1]
  exact FP.Core.Datum.noConfusion
theorem mf_shl : ∀ e, e < 31 → nI (127 + e) <<< ((23 : Int32) &&& (31 : Int32)) = nI ((127 + e) * 8388608) := by decide +kernel
theorem mf_cmp2 {p : Nat} (h : p < 1317011456) : (Op.cmpValue (FP.fcmp (nI p).toUInt32 FP.fconst2) CmpOp.l < 0) ↔ p < 1073741824 := by
  have n1 := mf_nan h
  have n2 : FP.Core.fIsNaN FP.fconst2 = false := by decide +kernel
  obtain ⟨o, ho⟩ := FP.Core.fcmp_of_notNaN n1 n2
  have hk := FP.Core.fcmp_lt_key ((FP.Core.notNaN_iff32 _).mp n1) ((FP.Core.notNaN_iff32 _).mp n2)
  have k1 : FP.Core.fkey (nI p).toUInt32 = (p : Int) := by
    unfold FP.Core.fkey
    rw [mf_ti (by omega), if_neg (by omega)]
  have k2 : FP.Core.fkey FP.fconst2 = 1073741824 := by decide +kernel
  rw [k1, k2, ho] at hk
  have ho' : FP.fcmp (nI p).toUInt32 FP.fconst2 = some o := ho
  rw [ho']
  cases o
  · have := hk.mp rfl
    exact ⟨fun _ => by omega, fun _ => by decide⟩
  · exact ⟨fun z => absurd z (by decide), fun z => absurd (hk.mpr (by omega)) (by decide)⟩
  · exact ⟨fun z => absurd z (by decide), fun z => absurd (hk.mpr (by omega)) (by decide)⟩
theorem mf_cmp1 {p : Nat} (h : p < 1317011456) (h1 : 1065353216 ≤ p) : 0 ≤ Op.cmpValue (FP.fcmp (nI p).toUInt32 FP.fconst1) CmpOp.g := by
  have n1 := mf_nan h
  have n2 : FP.Core.fIsNaN FP.fconst1 = false := by decide +kernel
  obtain ⟨o, ho⟩ := FP.Core.fcmp_of_notNaN n1 n2
  have hk := FP.Core.fcmp_lt_key ((FP.Core.notNaN_iff32 _).mp n1) ((FP.Core.notNaN_iff32 _).mp n2)
  have k1 : FP.Core.fkey (nI p).toUInt32 = (p : Int) := by
    unfold FP.Core.fkey
    rw [mf_ti (by omega), if_neg (by omega)]
  have k2 : FP.Core.fkey FP.fconst1 = 1065353216 := by decide +kernel
  rw [k1, k2, ho] at hk
  have ho' : FP.fcmp (nI p).toUInt32 FP.fconst1 = some o := ho
  rw [ho']
  cases o
  · have := hk.mp rfl
    omega
  · decide
  · decide
theorem mf_loop {μ : fw_M} {T : Nat} (hT : T < 8388608) : ∀ (e d n : Nat), e + d < 30 → e < n → f_X9_bitsOf_L13 μ n (nI ((127 + e) * 8388608 + T)).toUInt32 (nI (127 + d)) = some (nI ((127 + d + e) * 8388608 + T)) := by
  intro e
  induction e with
  | zero =>
    intro d n hd hn
    obtain ⟨n, rfl⟩ : ∃ q, n = q + 1 := ⟨n - 1, by omega⟩
    obtain ⟨a, b, c⟩ := mf_frac hT
    have h1 := (mf_cmp2 (p := 127 * 8388608 + T) (by omega)).mpr (by omega)
    have s := mf_shl d (by omega)
    have hor : nI ((127 + d) * 8388608) ||| nI T = nI ((127 + d) * 8388608 + T) := by
      rw [fa_or]
      congr 1
      have := Nat.two_pow_add_eq_or_of_lt (i := 23) (b := T) hT (127 + d)
      rw [show (127 + d) * 8388608 = 2 ^ 23 * (127 + d) by omega]
      exact this.symm
    show f_X9_bitsOf_L13 μ (n + 1) (nI (127 * 8388608 + T)).toUInt32 (nI (127 + d)) = some (nI ((127 + d) * 8388608 + T))
    rw [f_X9_bitsOf_L13, if_pos h1]
    unfold f_X9_bitsOf_J36
    rw [a, mt_g, b, mt_g, c, s, hor]
  | succ e ih =>
    intro d n hd hn
    obtain ⟨n, rfl⟩ : ∃ q, n = q + 1 := ⟨n - 1, by omega⟩
    have h1 : ¬ Op.cmpValue (FP.fcmp (nI ((127 + (e + 1)) * 8388608 + T)).toUInt32 FP.fconst2) CmpOp.l < 0 := fun z => by
      have := (mf_cmp2 (p := (127 + (e + 1)) * 8388608 + T) (by omega)).mp z
      omega
    have h2 : ¬ (254 : Int32) ≤ nI (127 + d) := by
      rw [ml_254, nI_leI (by decide) (by omega)]
      omega
    have e1 : nI (127 + d) + (1 : Int32) = nI (127 + (d + 1)) := by rw [ml_1, nI_add, Nat.add_assoc]
    have h3 := mf_half (E := 127 + (e + 1)) (T := T) (by omega) (by omega) hT
    rw [show 127 + (e + 1) - 1 = 127 + e by omega] at h3
    have h4 : fw_f32 (nI ((127 + e) * 8388608 + T)).toUInt32 = true := (mf_q (by rw [mf_ti (by omega), Nat.mod_eq_of_lt (by omega)]; omega)).1
    rw [f_X9_bitsOf_L13, if_neg h1, if_neg h2, h3, h4, mt_g]
    have := ih (d + 1) n (by omega) (by omega)
    rw [show (127 + (d + 1) + e) * 8388608 + T = (127 + d + (e + 1)) * 8388608 + T by omega] at this
    rw [e1]
    exact this
theorem mf_bits {μ : fw_M} {r p : Nat} (h : mt_F r p) : f_X9_bitsOf μ (nI p).toUInt32 = some (nI p) := by
  obtain ⟨h1, h2, -⟩ := h
  unfold f_X9_bitsOf
  rcases h1 with rfl | h1
  · rw [if_neg (by decide +kernel)]
    rfl
  · rw [if_pos (mf_cmp1 h2 h1)]
    have e := mf_loop (μ := μ) (T := p % 8388608) (Nat.mod_lt _ (by decide)) (p / 8388608 - 127) 0 1000 (by omega) (by omega)
    rw [show (127 + (p / 8388608 - 127)) * 8388608 + p % 8388608 = p by omega] at e
    rw [ml_127]
    exact e
/-! prices -/
theorem mf_8 : mf_u 1090519040 = 8 * 2 ^ 149 := by decide +kernel
theorem mf_16 : mf_u 1098907648 = 16 * 2 ^ 149 := by decide +kernel
theorem mf_add1 {q1 q2 : UInt32} (h1 : 1065353216 ≤ q1.toNat) (h2 : q1.toNat ≤ 1090519040) (h3 : q2.toNat ≤ 1098907648) : fw_f32 (FP.fadd q1 q2) = true ∧ 1065353216 ≤ (FP.fadd q1 q2).toNat ∧ (FP.fadd q1 q2).toNat < 2147483648 ∧ mf_u (FP.fadd q1 q2).toNat ≤ 32 * 2 ^ 149 ∧ fw_f64 (FP.f2d (FP.fadd q1 q2)) = true ∧ Op.cmpValue (FP.dcmp (FP.f2d (FP.fadd q1 q2)) (FP.f2d (FP.fadd q1 q2))) CmpOp.l = 0 := by
  have u1 : mf_u q1.toNat ≤ 8 * 2 ^ 149 := by
    rw [← mf_8]
    apply Nat.le_of_not_lt
    intro z
    rw [mf_lt] at z
    omega
  have u2 : mf_u q2.toNat ≤ 16 * 2 ^ 149 := by
    rw [← mf_16]
    apply Nat.le_of_not_lt
    intro z
    rw [mf_lt] at z
    omega
  obtain ⟨s1, s2, s3⟩ := mf_sum (a := q1) (b := q2) (n := 32) (by omega) (by omega) (Or.inl h1) (by decide) (by omega)
  obtain ⟨a, b, c⟩ := mf_q (a := FP.fadd q1 q2) (by omega)
  exact ⟨a, s1, by omega, s3, b, c⟩
theorem mf_S0 : mf_P FP.fconst0 := by
  unfold mf_P
  decide +kernel
theorem mf_S (own : Nat) (h1 : own < 6) (h : Nat) (h2 : h < 181) (pay : Nat) (h3 : pay < 5) (h4 : 40 ≤ h) (h5 : 1 ≤ pay) : mf_P (ms_cost h own pay) ∧ (1 ≤ own → 1065353216 ≤ (ms_cost h own pay).toNat) := by
  unfold ms_cost
  by_cases h0 : own = 0
  · rw [if_pos h0]
    exact ⟨mf_S0, fun z => by omega⟩
  · rw [if_neg h0]
    obtain ⟨a1, a2⟩ := mf_A2 own h1 (by omega)
    obtain ⟨b1, b2, b3, b4, b5, b6⟩ := mf_add1 a1 a2 (mf_B3 h h2 pay h3 h4 h5)
    exact ⟨⟨b1, Or.inr b2, b3, b4, b5, b6⟩, fun _ => b2⟩
