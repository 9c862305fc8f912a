/-! the mathematics, 1: numbers, loops, folds, the views of the memory -/
theorem ml_0 : (0 : Int32) = nI 0 := rfl
theorem ml_1 : (1 : Int32) = nI 1 := rfl
theorem ml_2 : (2 : Int32) = nI 2 := rfl
theorem ml_3 : (3 : Int32) = nI 3 := rfl
theorem ml_4 : (4 : Int32) = nI 4 := rfl
theorem ml_5 : (5 : Int32) = nI 5 := rfl
theorem ml_6 : (6 : Int32) = nI 6 := rfl
theorem ml_7 : (7 : Int32) = nI 7 := rfl
theorem ml_8 : (8 : Int32) = nI 8 := rfl
theorem ml_9 : (9 : Int32) = nI 9 := rfl
theorem ml_10 : (10 : Int32) = nI 10 := rfl
theorem ml_11 : (11 : Int32) = nI 11 := rfl
theorem ml_12 : (12 : Int32) = nI 12 := rfl
theorem ml_13 : (13 : Int32) = nI 13 := rfl
theorem ml_14 : (14 : Int32) = nI 14 := rfl
theorem ml_16 : (16 : Int32) = nI 16 := rfl
theorem ml_31 : (31 : Int32) = nI 31 := rfl
theorem ml_32 : (32 : Int32) = nI 32 := rfl
theorem ml_40 : (40 : Int32) = nI 40 := rfl
theorem ml_42 : (42 : Int32) = nI 42 := rfl
theorem ml_48 : (48 : Int32) = nI 48 := rfl
theorem ml_50 : (50 : Int32) = nI 50 := rfl
theorem ml_57 : (57 : Int32) = nI 57 := rfl
theorem ml_59 : (59 : Int32) = nI 59 := rfl
theorem ml_60 : (60 : Int32) = nI 60 := rfl
theorem ml_63 : (63 : Int32) = nI 63 := rfl
theorem ml_98 : (98 : Int32) = nI 98 := rfl
theorem ml_100 : (100 : Int32) = nI 100 := rfl
theorem ml_103 : (103 : Int32) = nI 103 := rfl
theorem ml_104 : (104 : Int32) = nI 104 := rfl
theorem ml_105 : (105 : Int32) = nI 105 := rfl
theorem ml_106 : (106 : Int32) = nI 106 := rfl
theorem ml_107 : (107 : Int32) = nI 107 := rfl
theorem ml_108 : (108 : Int32) = nI 108 := rfl
theorem ml_109 : (109 : Int32) = nI 109 := rfl
theorem ml_110 : (110 : Int32) = nI 110 := rfl
theorem ml_111 : (111 : Int32) = nI 111 := rfl
theorem ml_112 : (112 : Int32) = nI 112 := rfl
theorem ml_113 : (113 : Int32) = nI 113 := rfl
theorem ml_114 : (114 : Int32) = nI 114 := rfl
theorem ml_115 : (115 : Int32) = nI 115 := rfl
theorem ml_120 : (120 : Int32) = nI 120 := rfl
theorem ml_127 : (127 : Int32) = nI 127 := rfl
theorem ml_176 : (176 : Int32) = nI 176 := rfl
theorem ml_180 : (180 : Int32) = nI 180 := rfl
theorem ml_200 : (200 : Int32) = nI 200 := rfl
theorem ml_254 : (254 : Int32) = nI 254 := rfl
theorem ml_255 : (255 : Int32) = nI 255 := rfl
theorem ml_256 : (256 : Int32) = nI 256 := rfl
theorem ml_300 : (300 : Int32) = nI 300 := rfl
theorem ml_728 : (728 : Int32) = nI 728 := rfl
theorem ml_832 : (832 : Int32) = nI 832 := rfl
theorem ml_65536 : (65536 : Int32) = nI 65536 := rfl
theorem ml_m1 : -(nI 1) = nI 4294967295 := rfl
theorem mt_mul (a b : Nat) : nI a * nI b = nI (a * b) := (Int32.ofNat_mul a b).symm
theorem mt_sub {a b : Nat} (h : b ≤ a) : nI a - nI b = nI (a - b) := by
  have h1 : nI (a - b) + nI b = nI a := by rw [nI_add, Nat.sub_add_cancel h]
  rw [← h1]
  exact Int32.add_sub_cancel _ _
theorem mt_xor (a b : Nat) : nI a ^^^ nI b = nI (a ^^^ b) := by
  apply Int32.toBitVec_inj.1
  show BitVec.ofNat 32 a ^^^ BitVec.ofNat 32 b = BitVec.ofNat 32 (a ^^^ b)
  apply BitVec.eq_of_getLsbD_eq
  intro i hi
  simp [hi]
theorem mt_shl : ∀ k, k < 31 → nI 1 <<< (nI k &&& nI 31) = nI (2 ^ k) := by decide +kernel
theorem mt_ushc : ∀ j : Fin 32, (UInt32.ofNat j.val &&& Int32.toUInt32 31).toNat % 32 = j.val := by decide +kernel
theorem mt_ush {k j : Nat} (hk : k < 2 ^ 31) (hj : j < 32) : ((nI k).toUInt32 >>> ((nI j).toUInt32 &&& Int32.toUInt32 31)).toInt32 = nI (k >>> j) := by
  have hs : k >>> j ≤ k := by
    rw [Nat.shiftRight_eq_div_pow]
    exact Nat.div_le_self _ _
  have e2 : UInt32.ofNat k >>> (UInt32.ofNat j &&& Int32.toUInt32 31) = UInt32.ofNat (k >>> j) := by
    apply UInt32.toNat_inj.1
    have h1 : (UInt32.ofNat k).toNat = k := Nat.mod_eq_of_lt (by omega)
    have h2 : (UInt32.ofNat (k >>> j)).toNat = k >>> j := Nat.mod_eq_of_lt (by omega)
    rw [UInt32.toNat_shiftRight, mt_ushc ⟨j, hj⟩, h1, h2]
  show (UInt32.ofNat k >>> (UInt32.ofNat j &&& Int32.toUInt32 31)).toInt32 = _
  rw [e2]
  rfl
theorem mt_div2 {a : Nat} (h : a < 2 ^ 31) : nI a / nI 2 = nI (a / 2) := by
  apply Int32.toInt_inj.mp
  rw [Int32.toInt_div_of_ne_right _ _ (by decide), nI_toInt h, nI_toInt (by decide), nI_toInt (by omega)]
  rfl
theorem mt_rem2 {a : Nat} (h : a < 2 ^ 31) : nI a - nI a / nI 2 * nI 2 = nI (a % 2) := by
  rw [mt_div2 h, mt_mul, mt_sub (by omega)]
  congr 1
  omega
theorem mt_rng (x : Int32) {n : Nat} (hn : n < 2 ^ 31) : (∃ g, g < n ∧ x = nI g) ∨ x < 0 ∨ nI n ≤ x := by
  by_cases h : x < 0
  · exact Or.inr (Or.inl h)
  · obtain ⟨j, h1, rfl⟩ := nI_of h
    by_cases h2 : j < n
    · exact Or.inl ⟨j, h2, rfl⟩
    · exact Or.inr (Or.inr ((nI_leI hn h1).mpr (by omega)))
theorem mt_pred {n : Nat} (hn : n < 2 ^ 31) {x : Int32} (h : nI n ≤ x) : nI n - nI 1 < x := by
  rw [Int32.le_iff_toInt_le, nI_toInt hn] at h
  rw [Int32.lt_iff_toInt_lt, Int32.toInt_sub, nI_toInt hn, nI_toInt (by decide)]
  rw [Int.bmod_eq_of_le (by omega) (by omega)]
  omega
/-! guards and binds -/
theorem mt_in_t {i N : Nat} (h : i < N) (hN : N < 2 ^ 31) : fw_in (nI i) N = true := by
  have h1 := nI_in h hN
  simp only [fw_in, Bool.not_eq_true', Bool.or_eq_false_iff, decide_eq_false_iff_not]
  exact ⟨fun z => h1 (Or.inl z), fun z => h1 (Or.inr z)⟩
theorem mt_g {α : Type} (x : Option α) : fw_g true x = x := Eq.trans (Eq.refl _) (Eq.refl _)
theorem mt_b1 {α β : Type} (x : α) (f : α → Option β) : fw_b1 (some x) f = f x := Eq.trans (Eq.refl _) (Eq.refl _)
theorem mt_b2 {α β : Type} (m : fw_M) (x : α) (f : fw_M → α → Option β) : fw_b2 (some (m, x)) f = f m x := Eq.trans (Eq.refl _) (Eq.refl _)
theorem mt_b3 {α β : Type} (m : fw_M) (x : α) (k : Nat) (f : fw_M → α → Nat → Option β) : fw_b3 (some (m, x, k)) f = f m x k := Eq.trans (Eq.refl _) (Eq.refl _)
theorem mt_b4 {β : Type} (m : fw_M) (a : Int64) (b : UInt64) (x : Int32) (f : fw_M → Int64 → UInt64 → Int32 → Option β) : fw_b4 (some (m, a, b, x)) f = f m a b x := Eq.trans (Eq.refl _) (Eq.refl _)
theorem mt_l {α β : Type} (x : α) (f : α → Option β) : fw_l x f = f x := Eq.trans (Eq.refl _) (Eq.refl _)
theorem mt_bo : ∀ k, k < 2 → fw_bo (nI k) = true := by decide +kernel
/-! loops -/
theorem mt_while {α β : Type} {L : Nat → α → Int32 → Option β} {I : Nat → α → Prop} {P : Option β → Prop} {N : Nat} (hend : ∀ n a, I N a → P (L (n + 1) a (nI N))) (hstep : ∀ n a i, i < N → I i a → (∃ a', I (i + 1) a' ∧ L (n + 1) a (nI i) = L n a' (nI (i + 1))) ∨ P (L (n + 1) a (nI i))) : ∀ (k n : Nat) (a : α) (i : Nat), i + k = N → k < n → I i a → P (L n a (nI i)) := by
  intro k
  induction k with
  | zero =>
    intro n a i h hn hI
    obtain ⟨n, rfl⟩ : ∃ q, n = q + 1 := ⟨n - 1, by omega⟩
    obtain rfl : i = N := by omega
    exact hend n a hI
  | succ k ih =>
    intro n a i h hn hI
    obtain ⟨n, rfl⟩ : ∃ q, n = q + 1 := ⟨n - 1, by omega⟩
    rcases hstep n a i (by omega) hI with ⟨a', h1, h2⟩ | h1
    · rw [h2]
      exact ih n a' (i + 1) (by omega) (by omega) h1
    · exact h1
theorem mt_det {α β : Type} (L : Nat → α → Int32 → Option β) (A : Nat → α) {N : Nat} {R : Option β} (hend : ∀ n, L (n + 1) (A N) (nI N) = R) (hstep : ∀ n i, i < N → L (n + 1) (A i) (nI i) = L n (A (i + 1)) (nI (i + 1))) {n : Nat} (hn : N < n) : L n (A 0) (nI 0) = R := by
  refine mt_while (I := fun i a => a = A i) (P := fun r => r = R) (N := N) ?_ ?_ N n (A 0) 0 (by omega) hn rfl
  · intro n a h
    subst h
    exact hend n
  · intro n a i hi h
    subst h
    exact Or.inl ⟨_, rfl, hstep n i hi⟩
/-! folds -/
def mt_or (f : Nat → Nat) : Nat → Nat
  | 0 => 0
  | n + 1 => mt_or f n ||| f n
def mt_an (f : Nat → Nat) : Nat → Nat
  | 0 => 255
  | n + 1 => mt_an f n &&& f n
def mt_mx (f : Nat → Nat) : Nat → Nat
  | 0 => 0
  | n + 1 => if mt_mx f n < f n then f n else mt_mx f n
def mt_sm (f : Nat → Nat) : Nat → Nat
  | 0 => 0
  | n + 1 => mt_sm f n + f n
theorem mt_sm_le {f : Nat → Nat} {c : Nat} : ∀ {n : Nat}, (∀ g, g < n → f g ≤ c) → mt_sm f n ≤ n * c
  | 0, _ => by simp [mt_sm]
  | n + 1, h => by
    have h1 := mt_sm_le (n := n) (fun g hg => h g (by omega))
    have h2 := h n (by omega)
    have h3 : (n + 1) * c = n * c + c := Nat.succ_mul n c
    show mt_sm f n + f n ≤ _
    omega
theorem mt_sm_c {f h : Nat → Nat} : ∀ {n : Nat}, (∀ g, g < n → f g = h g) → mt_sm f n = mt_sm h n
  | 0, _ => rfl
  | n + 1, q => by
    show mt_sm f n + f n = mt_sm h n + h n
    rw [mt_sm_c (n := n) (fun g hg => q g (by omega)), q n (by omega)]
theorem mt_sm_a (f h : Nat → Nat) : ∀ n : Nat, mt_sm (fun g => f g + h g) n = mt_sm f n + mt_sm h n
  | 0 => rfl
  | n + 1 => by
    show mt_sm (fun g => f g + h g) n + (f n + h n) = mt_sm f n + f n + (mt_sm h n + h n)
    rw [mt_sm_a f h n]
    omega
theorem mt_or_lt {f : Nat → Nat} {b : Nat} : ∀ {n : Nat}, (∀ g, g < n → f g < 2 ^ b) → mt_or f n < 2 ^ b
  | 0, _ => Nat.two_pow_pos b
  | n + 1, h => Nat.or_lt_two_pow (mt_or_lt (n := n) (fun g hg => h g (by omega))) (h n (by omega))
theorem mt_an_lt {f : Nat → Nat} : ∀ n : Nat, mt_an f n < 256
  | 0 => (by decide : 255 < 256)
  | n + 1 => Nat.lt_of_le_of_lt Nat.and_le_left (mt_an_lt n)
theorem mt_mx_lt {f : Nat → Nat} {b : Nat} (hb : 0 < b) : ∀ {n : Nat}, (∀ g, g < n → f g < b) → mt_mx f n < b
  | 0, _ => hb
  | n + 1, h => by
    show (if mt_mx f n < f n then f n else mt_mx f n) < b
    split
    · exact h n (by omega)
    · exact mt_mx_lt hb (n := n) (fun g hg => h g (by omega))
/-! the views: the reference's numbers; a state that the calls can reach; the class's State j -/
def mt_M (μ : fw_M) (f off : Nat) (σ : Nat → Nat) : Prop := ∀ i, i < 104 → μ 0 f (off + i) = nI (σ i)
/-- 0 count, 1 runs, 2, 3 temperatures, 4 + 6 g .. the garments (client, sock, colour, stains, place, washes), 100 .. the sums paid -/
def mt_C (μ : fw_M) (j : Nat) (σ : Nat → Nat) : Prop := μ j 0 6 = nI (σ 0) ∧ μ j 0 9 = nI (σ 1) ∧ (∀ m, m < 2 → μ j 7 m = nI (σ (2 + m))) ∧ (∀ c, c < 4 → μ j 8 c = nI (σ (100 + c))) ∧ (∀ g, g < σ 0 → μ j 1 g = nI (σ (4 + 6 * g + 0))) ∧ (∀ g, g < σ 0 → μ j 2 g = nI (σ (4 + 6 * g + 1))) ∧ (∀ g, g < σ 0 → μ j 3 g = nI (σ (4 + 6 * g + 2))) ∧ (∀ g, g < σ 0 → μ j 4 g = nI (σ (4 + 6 * g + 3))) ∧ (∀ g, g < σ 0 → μ j 5 g = nI (σ (4 + 6 * g + 4))) ∧ (∀ g, g < σ 0 → μ j 6 g = nI (σ (4 + 6 * g + 5)))
def mt_G (σ : Nat → Nat) (g : Nat) : Prop := σ (4 + 6 * g + 0) < 4 ∧ σ (4 + 6 * g + 1) < 2 ∧ σ (4 + 6 * g + 2) < 8 ∧ σ (4 + 6 * g + 3) < 256 ∧ σ (4 + 6 * g + 4) < 4
def ms_held (σ : Nat → Nat) (m : Nat) : Nat := mt_sm (fun g => if σ (4 + 6 * g + 4) = m + 1 then 1 else 0) (σ 0)
/-- a sum paid: a float without sign that is 0 or at least 1, and not above 32 times the number of runs -/
def mf_u (p : Nat) : Nat := if p < 8388608 then p else (8388608 + p % 8388608) * 2 ^ (p / 8388608 - 1)
def mt_F (r p : Nat) : Prop := (p = 0 ∨ 1065353216 ≤ p) ∧ p < 1317011456 ∧ mf_u p ≤ 32 * r * 2 ^ 149
def mt_k (σ : Nat → Nat) : Prop := σ 0 ≤ 16 ∧ ∀ g, g < σ 0 → mt_G σ g
def mt_ok (B : Nat) (σ : Nat → Nat) : Prop := mt_k σ ∧ σ 1 ≤ B ∧ (∀ m, m < 2 → 40 ≤ σ (2 + m) ∧ σ (2 + m) ≤ 180) ∧ (∀ m, m < 2 → ms_held σ m ≤ 5) ∧ ∀ c, c < 4 → mt_F (σ 1) (σ (100 + c))
theorem mt_ok_m {B B' : Nat} {σ : Nat → Nat} (h : mt_ok B σ) (hB : B ≤ B') : mt_ok B' σ := ⟨h.1, Nat.le_trans h.2.1 hB, h.2.2⟩
/-- what a method leaves alone: all cells that S does not name -/
def mt_fr (S : Nat → Nat → Bool) (μ μ' : fw_M) : Prop := ∀ j f, S j f = false → μ' j f = μ j f
theorem mt_fr_r {S : Nat → Nat → Bool} {μ : fw_M} : mt_fr S μ μ := fun _ _ _ => rfl
theorem mt_fr_t {S : Nat → Nat → Bool} {μ μ' μ'' : fw_M} (h : mt_fr S μ μ') (h' : mt_fr S μ' μ'') : mt_fr S μ μ'' := fun j f q => (h' j f q).trans (h j f q)
theorem mt_fr_w {S S' : Nat → Nat → Bool} {μ μ' : fw_M} (h : mt_fr S μ μ') (hS : ∀ j f, S' j f = false → S j f = false) : mt_fr S' μ μ' := fun j f q => h j f (hS j f q)
theorem mt_fr_u {S : Nat → Nat → Bool} {μ : fw_M} {j f i : Nat} {v : Int32} (h : S j f = true) : mt_fr S μ (fw_u μ j f i v) := fun j' f' q => fw_u_o (fun z => by rw [z.1, z.2, h] at q; cases q)
theorem mt_C_k {μ μ' : fw_M} {j : Nat} {σ : Nat → Nat} (h : mt_C μ j σ) (hk : ∀ f, f < 9 → μ' j f = μ j f) : mt_C μ' j σ := by
  unfold mt_C
  rw [hk 0 (by decide), hk 7 (by decide), hk 8 (by decide), hk 1 (by decide), hk 2 (by decide), hk 3 (by decide), hk 4 (by decide), hk 5 (by decide), hk 6 (by decide)]
  exact h
theorem mt_M_k {μ μ' : fw_M} {f off : Nat} {σ : Nat → Nat} (h : mt_M μ f off σ) (hk : μ' 0 f = μ 0 f) : mt_M μ' f off σ := by
  unfold mt_M
  rw [hk]
  exact h
theorem mt_at {μ : fw_M} {σ : Nat → Nat} (h : mt_M μ 19 0 σ) {i : Nat} (hi : i < 104) : μ 0 19 i = nI (σ i) := by
  have h1 := h i hi
  rw [Nat.zero_add] at h1
  exact h1
theorem mr_of {μ : fw_M} {σ : Nat → Nat} (h : mt_M μ 19 0 σ) {g w : Nat} (hg : g < 16) (hw : w < 6) : f_X10_of μ (nI g) (nI w) = some (nI (σ (4 + 6 * g + w))) := by
  have h1 := mt_at h (i := 4 + 6 * g + w) (by omega)
  simp (discharger := omega) only [f_X10_of, nI_add, mt_mul, nI_clamp, nI_leI, nI_ltI, nI_eq, mt_in_t, mt_b1, mt_b2, mt_b3, mt_b4, mt_l, mt_g, ↓reduceIte, Nat.reduceEqDiff, Nat.reduceLeDiff, ml_0, ml_1, ml_2, ml_3, ml_4, ml_5, ml_6, ml_7, ml_8, ml_9, ml_10, ml_11, ml_12, ml_13, ml_14, ml_16, ml_31, ml_32, ml_40, ml_42, ml_48, ml_50, ml_57, ml_59, ml_60, ml_63, ml_98, ml_100, ml_103, ml_104, ml_105, ml_106, ml_107, ml_108, ml_109, ml_110, ml_111, ml_112, ml_113, ml_114, ml_115, ml_120, ml_127, ml_176, ml_180, ml_200, ml_254, ml_255, ml_256, ml_300, ml_728, ml_832, ml_65536, h1]
