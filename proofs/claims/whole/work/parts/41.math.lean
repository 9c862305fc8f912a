/-! the mathematics, 2: how many bits -/
def ms_pc (x : Nat) : Nat := mt_sm (fun i => x / 2 ^ i % 2) 8
theorem mt_bc0 : ∀ x, x < 256 → f_J6_bitCount_0f7a4 (fun _ _ _ => 0) (nI x) = some (nI (ms_pc x)) := by decide +kernel
theorem mt_bc {μ : fw_M} {x : Nat} (h : x < 256) : f_J6_bitCount_0f7a4 μ (nI x) = some (nI (ms_pc x)) := mt_bc0 x h
def mt_bcA (x : Nat) : Nat := x - ((x >>> 1) &&& 1431655765)
def mt_bcB (y : Nat) : Nat := (y &&& 858993459) + ((y >>> 2) &&& 858993459)
def mt_bcC (y : Nat) : Nat := (y + (y >>> 4)) &&& 252645135
def mt_bcD (y : Nat) : Nat := y + (y >>> 8)
def mt_bcE (y : Nat) : Nat := (y + (y >>> 16)) &&& 63
def mt_bcN (x : Nat) : Nat := mt_bcE (mt_bcD (mt_bcC (mt_bcB (mt_bcA x))))
theorem mt_shr_le (x k : Nat) : x >>> k ≤ x := by
  rw [Nat.shiftRight_eq_div_pow]
  exact Nat.div_le_self _ _
theorem mt_bcI {μ : fw_M} {x : Nat} (h : x < 65536) : f_J6_bitCount_0f7a4 μ (nI x) = some (nI (mt_bcN x)) := by
  have a1 : (x >>> 1) &&& 1431655765 ≤ x := Nat.le_trans Nat.and_le_left (mt_shr_le x 1)
  have a2 : mt_bcA x ≤ x := Nat.sub_le _ _
  have b1 : mt_bcA x &&& 858993459 ≤ mt_bcA x := Nat.and_le_left
  have b2 : (mt_bcA x >>> 2) &&& 858993459 ≤ mt_bcA x := Nat.le_trans Nat.and_le_left (mt_shr_le _ 2)
  have b3 : mt_bcB (mt_bcA x) ≤ 2 * mt_bcA x := by unfold mt_bcB; omega
  have c1 := mt_shr_le (mt_bcB (mt_bcA x)) 4
  have c3 : mt_bcC (mt_bcB (mt_bcA x)) ≤ 2 * mt_bcB (mt_bcA x) := Nat.le_trans Nat.and_le_left (by omega)
  have d1 := mt_shr_le (mt_bcC (mt_bcB (mt_bcA x))) 8
  have d3 : mt_bcD (mt_bcC (mt_bcB (mt_bcA x))) ≤ 2 * mt_bcC (mt_bcB (mt_bcA x)) := by unfold mt_bcD; omega
  have q1 : nI x - (((nI x).toUInt32 >>> ((1 : Int32).toUInt32 &&& Int32.toUInt32 31)).toInt32 &&& (1431655765 : Int32)) = nI (mt_bcA x) := by
    rw [show (1 : Int32) = nI 1 from rfl, show (1431655765 : Int32) = nI 1431655765 from rfl, mt_ush (by omega) (by decide), fa_and, mt_sub a1]
    rfl
  have q2 : (nI (mt_bcA x) &&& (858993459 : Int32)) + (((nI (mt_bcA x)).toUInt32 >>> ((2 : Int32).toUInt32 &&& Int32.toUInt32 31)).toInt32 &&& (858993459 : Int32)) = nI (mt_bcB (mt_bcA x)) := by
    rw [show (2 : Int32) = nI 2 from rfl, show (858993459 : Int32) = nI 858993459 from rfl, mt_ush (by omega) (by decide), fa_and, fa_and, nI_add]
    rfl
  have q3 : (nI (mt_bcB (mt_bcA x)) + ((nI (mt_bcB (mt_bcA x))).toUInt32 >>> ((4 : Int32).toUInt32 &&& Int32.toUInt32 31)).toInt32) &&& (252645135 : Int32) = nI (mt_bcC (mt_bcB (mt_bcA x))) := by
    rw [show (4 : Int32) = nI 4 from rfl, show (252645135 : Int32) = nI 252645135 from rfl, mt_ush (by omega) (by decide), nI_add, fa_and]
    rfl
  have q4 : nI (mt_bcC (mt_bcB (mt_bcA x))) + ((nI (mt_bcC (mt_bcB (mt_bcA x)))).toUInt32 >>> ((8 : Int32).toUInt32 &&& Int32.toUInt32 31)).toInt32 = nI (mt_bcD (mt_bcC (mt_bcB (mt_bcA x)))) := by
    rw [show (8 : Int32) = nI 8 from rfl, mt_ush (by omega) (by decide), nI_add]
    rfl
  have q5 : (nI (mt_bcD (mt_bcC (mt_bcB (mt_bcA x)))) + ((nI (mt_bcD (mt_bcC (mt_bcB (mt_bcA x))))).toUInt32 >>> ((16 : Int32).toUInt32 &&& Int32.toUInt32 31)).toInt32) &&& (63 : Int32) = nI (mt_bcN x) := by
    rw [show (16 : Int32) = nI 16 from rfl, show (63 : Int32) = nI 63 from rfl, mt_ush (by omega) (by decide), nI_add, fa_and]
    rfl
  unfold f_J6_bitCount_0f7a4
  simp only [mt_l]
  rw [q1, q2, q3, q4, q5]
theorem mt_bcs0 : ∀ n, n < 12 → ∀ x, x < 2 ^ n → mt_bcN (x + 2 ^ n) = mt_bcN x + 1 := by decide +kernel
theorem mt_bcs12 : ∀ a, a < 16 → ∀ b, b < 256 → mt_bcN (a * 256 + b + 4096) = mt_bcN (a * 256 + b) + 1 := by decide +kernel
theorem mt_bcs13 : ∀ a, a < 32 → ∀ b, b < 256 → mt_bcN (a * 256 + b + 8192) = mt_bcN (a * 256 + b) + 1 := by decide +kernel
theorem mt_bcs14 : ∀ a, a < 64 → ∀ b, b < 256 → mt_bcN (a * 256 + b + 16384) = mt_bcN (a * 256 + b) + 1 := by decide +kernel
theorem mt_bcs15a : ∀ a, a < 64 → ∀ b, b < 256 → mt_bcN (a * 256 + b + 32768) = mt_bcN (a * 256 + b) + 1 := by decide +kernel
theorem mt_bcs15b : ∀ a, a < 64 → ∀ b, b < 256 → mt_bcN ((a + 64) * 256 + b + 32768) = mt_bcN ((a + 64) * 256 + b) + 1 := by decide +kernel
theorem mt_bcs {n x : Nat} (hn : n < 16) (hx : x < 2 ^ n) : mt_bcN (x + 2 ^ n) = mt_bcN x + 1 := by
  by_cases h : n < 12
  · exact mt_bcs0 n h x hx
  have hd : x / 256 * 256 + x % 256 = x := Nat.div_add_mod' x 256
  have hm : x % 256 < 256 := Nat.mod_lt _ (by decide)
  have hc : n = 12 ∨ n = 13 ∨ n = 14 ∨ n = 15 := by omega
  rcases hc with rfl | rfl | rfl | rfl
  · have h1 := mt_bcs12 (x / 256) (by omega) (x % 256) hm
    rw [hd] at h1
    exact h1
  · have h1 := mt_bcs13 (x / 256) (by omega) (x % 256) hm
    rw [hd] at h1
    exact h1
  · have h1 := mt_bcs14 (x / 256) (by omega) (x % 256) hm
    rw [hd] at h1
    exact h1
  · by_cases h2 : x / 256 < 64
    · have h1 := mt_bcs15a (x / 256) h2 (x % 256) hm
      rw [hd] at h1
      exact h1
    · have h1 := mt_bcs15b (x / 256 - 64) (by omega) (x % 256) hm
      rw [show x / 256 - 64 + 64 = x / 256 by omega, hd] at h1
      exact h1
theorem mt_or_mask {f h : Nat → Nat} : ∀ {n : Nat}, (∀ g, g < n → (f g = 2 ^ g ∧ h g = 1) ∨ (f g = 0 ∧ h g = 0)) → mt_or f n < 2 ^ n ∧ (n ≤ 16 → mt_bcN (mt_or f n) = mt_sm h n)
  | 0, _ => ⟨(by decide : 0 < 2 ^ 0), fun _ => (by decide : mt_bcN 0 = 0)⟩
  | n + 1, q => by
    obtain ⟨h1, h2⟩ := mt_or_mask (n := n) (fun g hg => q g (by omega))
    have h3 : 2 ^ (n + 1) = 2 ^ n + 2 ^ n := by rw [Nat.pow_succ]; omega
    show mt_or f n ||| f n < 2 ^ (n + 1) ∧ (n + 1 ≤ 16 → mt_bcN (mt_or f n ||| f n) = mt_sm h n + h n)
    rcases q n (by omega) with ⟨e1, e2⟩ | ⟨e1, e2⟩
    · have h4 : mt_or f n ||| 2 ^ n = mt_or f n + 2 ^ n := by
        have h5 := Nat.two_pow_add_eq_or_of_lt h1 1
        rw [Nat.mul_one] at h5
        rw [Nat.or_comm, ← h5, Nat.add_comm]
      rw [e1, e2, h4]
      refine ⟨by omega, fun hn => ?_⟩
      rw [mt_bcs (by omega) h1, h2 (by omega)]
    · rw [e1, e2, Nat.or_zero]
      exact ⟨by omega, fun hn => h2 (by omega)⟩
theorem mt_bcm {μ : fw_M} {f h : Nat → Nat} {n : Nat} (hn : n ≤ 16) (q : ∀ g, g < n → (f g = 2 ^ g ∧ h g = 1) ∨ (f g = 0 ∧ h g = 0)) : f_J6_bitCount_0f7a4 μ (nI (mt_or f n)) = some (nI (mt_sm h n)) := by
  obtain ⟨h1, h2⟩ := mt_or_mask q
  have h3 : 2 ^ n ≤ 2 ^ 16 := Nat.pow_le_pow_right (by decide) hn
  rw [mt_bcI (by omega), h2 hn]
theorem mt_bits_i (μ μ' : fw_M) : ∀ (n : Nat) (a b : Int32), f_X10_bits_L4 μ n a b = f_X10_bits_L4 μ' n a b
  | 0, _, _ => rfl
  | n + 1, a, b => by
    rw [f_X10_bits_L4, f_X10_bits_L4, mt_bits_i μ μ' n]
theorem mt_bits0 : ∀ x, x < 256 → f_X10_bits_L4 (fun _ _ _ => 0) 1000 0 (nI x) = some (nI (ms_pc x)) := by decide +kernel
theorem mr_bits {μ : fw_M} {x : Nat} (h : x < 256) : f_X10_bits μ (nI x) = some (nI (ms_pc x)) := (mt_bits_i μ (fun _ _ _ => 0) 1000 0 (nI x)).trans (mt_bits0 x h)
theorem ms_pc_lt : ∀ x, x < 256 → ms_pc x ≤ 8 := by decide +kernel
