/-! the mathematics: the reference's state as numbers, and what its small methods say of it -/
def mt_up {α : Type} (f : α → Nat → α) : α → Nat → Nat → α
  | a, _, 0 => a
  | a, i, k + 1 => mt_up f (f a i) (i + 1) k
theorem mt_up_s {α : Type} (f : α → Nat → α) (a : α) (i k : Nat) : mt_up f a i (k + 1) = f (mt_up f a i k) (i + k) := by
  induction k generalizing a i with
  | zero => rfl
  | succ k ih =>
    show mt_up f (f a i) (i + 1) (k + 1) = _
    rw [ih (f a i) (i + 1)]
    show f (mt_up f (f a i) (i + 1) k) (i + 1 + k) = f (mt_up f (f a i) (i + 1) k) (i + (k + 1))
    rw [show i + 1 + k = i + (k + 1) by omega]
theorem mt_up_c {α : Type} {f g : α → Nat → α} {i k : Nat} (h : ∀ a j, i ≤ j → j < i + k → f a j = g a j) (a : α) : mt_up f a i k = mt_up g a i k := by
  induction k generalizing a i with
  | zero => rfl
  | succ k ih =>
    show mt_up f (f a i) (i + 1) k = mt_up g (g a i) (i + 1) k
    rw [h a i (Nat.le_refl i) (by omega)]
    exact ih (fun a j h1 h2 => h a j (by omega) (by omega)) (g a i)
/-- a loop over i < N that carries a, told by one step and one end -/
theorem mt_loop {α β : Type} (L : Nat → α → Int32 → Option β) (f : α → Nat → α) (fin : α → Option β) {N : Nat} (hend : ∀ n a, L (n + 1) a (nI N) = fin a) (hstep : ∀ n a i, i < N → L (n + 1) a (nI i) = L n (f a i) (nI (i + 1))) : ∀ (k n : Nat) (a : α) (i : Nat), i + k = N → k < n → L n a (nI i) = fin (mt_up f a i k) := by
  intro k
  induction k with
  | zero =>
    intro n a i h hn
    obtain ⟨n, rfl⟩ : ∃ q, n = q + 1 := ⟨n - 1, by omega⟩
    obtain rfl : i = N := by omega
    exact hend n a
  | succ k ih =>
    intro n a i h hn
    obtain ⟨n, rfl⟩ : ∃ q, n = q + 1 := ⟨n - 1, by omega⟩
    rw [hstep n a i (by omega), ih n (f a i) (i + 1) (by omega) (by omega)]
    rfl
theorem nI_mul (a b : Nat) : nI a * nI b = nI (a * b) := (Int32.ofNat_mul a b).symm
theorem fw_in_n {i N : Nat} (h : i < N) (hN : N < 2 ^ 31) : fw_in (nI i) N = true := by
  have h1 := nI_in h hN
  simp only [fw_in, Bool.not_eq_true', Bool.or_eq_false_iff, decide_eq_false_iff_not]
  exact ⟨fun z => h1 (Or.inl z), fun z => h1 (Or.inr z)⟩
theorem fw_g_t {α : Type} {b : Bool} {x : Option α} (h : b = true) : fw_g b x = x := by
  unfold fw_g
  rw [if_pos h]
/-- the reference's numbers at the array f from off on -/
def mt_M (μ : fw_M) (f off : Nat) (σ : Nat → Nat) : Prop := ∀ i, i < 104 → μ 0 f (off + i) = nI (σ i)
/-- a state that the calls can reach: 0 count, 1 runs, 2, 3 temperatures, 4 + 6 g .. the garments -/
def mt_ok (σ : Nat → Nat) : Prop := σ 0 ≤ 16 ∧ (∀ m, m < 2 → 40 ≤ σ (2 + m) ∧ σ (2 + m) ≤ 180) ∧ ∀ g, g < σ 0 → σ (4 + 6 * g) < 4 ∧ σ (4 + 6 * g + 1) < 2 ∧ σ (4 + 6 * g + 2) < 8 ∧ σ (4 + 6 * g + 3) < 256 ∧ σ (4 + 6 * g + 4) < 4
theorem mt_at {μ : fw_M} {σ : Nat → Nat} (h : mt_M μ 19 0 σ) {i : Nat} (hi : i < 104) : μ 0 19 i = nI (σ i) := by
  have h1 := h i hi
  rw [Nat.zero_add] at h1
  exact h1
theorem mt_ix (g w : Nat) : (4 : Int32) + (6 : Int32) * nI g + nI w = nI (4 + 6 * g + w) := by
  rw [show (4 : Int32) = nI 4 from rfl, show (6 : Int32) = nI 6 from rfl, nI_mul, nI_add, nI_add]
theorem mt_of {μ : fw_M} {σ : Nat → Nat} (h : mt_M μ 19 0 σ) {g w : Nat} (hg : g < 16) (hw : w < 6) : f_X10_of μ (nI g) (nI w) = some (nI (σ (4 + 6 * g + w))) := by
  unfold f_X10_of
  rw [mt_ix, fw_g_t (fw_in_n (by omega) (by decide)), nI_clamp (by omega), mt_at h (by omega)]
theorem mt_in {μ : fw_M} {v a b : Nat} (hv : v < 2 ^ 31) (ha : a < 2 ^ 31) (hb : b < 2 ^ 31) : f_X10_in μ (nI v) (nI a) (nI b) = some (if a ≤ v ∧ v ≤ b then 1 else 0) := by
  unfold f_X10_in
  by_cases h1 : v < a
  · rw [if_pos ((nI_ltI hv ha).mpr h1), if_neg (by omega)]
  · rw [if_neg (fun z => h1 ((nI_ltI hv ha).mp z))]
    by_cases h2 : b < v
    · rw [if_pos ((nI_ltI hb hv).mpr h2), if_neg (by omega)]
    · rw [if_neg (fun z => h2 ((nI_ltI hb hv).mp z)), if_pos (by omega)]
theorem mt_isInside {μ : fw_M} {σ : Nat → Nat} (h : mt_M μ 19 0 σ) (hok : mt_ok σ) {g m : Nat} (hg : g < σ 0) (hm : m < 2) : f_X10_isInside μ (nI g) (nI m) = some (if σ (4 + 6 * g + 4) = m + 1 then 1 else 0) := by
  have h16 := hok.1
  have hp := (hok.2.2 g hg).2.2.2.2
  unfold f_X10_isInside
  rw [show (4 : Int32) = nI 4 from rfl, mt_of h (by omega) (by decide)]
  show (if nI (σ (4 + 6 * g + 4)) = nI m + (1 : Int32) then some (1 : Int32) else some (0 : Int32)) = _
  rw [nI_1]
  by_cases h1 : σ (4 + 6 * g + 4) = m + 1
  · rw [if_pos (by rw [h1]), if_pos h1]
  · rw [if_neg (fun z => h1 ((nI_eq (by omega) (by omega)).mp z)), if_neg h1]
/-- how many garments lie in the machine m -/
def mt_held (σ : Nat → Nat) (m : Nat) : Nat := mt_up (fun c g => c + if σ (4 + 6 * g + 4) = m + 1 then 1 else 0) 0 0 (σ 0)
theorem mt_heldL {μ : fw_M} {σ : Nat → Nat} (h : mt_M μ 19 0 σ) (hok : mt_ok σ) {m : Nat} (hm : m < 2) : f_X10_held μ (nI m) = some (nI (mt_held σ m)) := by
  have h16 := hok.1
  unfold f_X10_held mt_held
  have key := mt_loop (fun n (c : Nat) i => f_X10_held_L4 μ n (nI m) (nI c) i) (fun c g => c + if σ (4 + 6 * g + 4) = m + 1 then 1 else 0) (fun c => some (nI c)) (N := σ 0) ?_ ?_ (σ 0) 1000 0 0 (by omega) (by omega)
  · exact key
  · intro n c
    show f_X10_held_L4 μ (n + 1) (nI m) (nI c) (nI (σ 0)) = _
    rw [f_X10_held_L4, show (0 : Int32).toNatClampNeg = 0 from rfl, mt_at h (by decide), if_pos (nI_le (Nat.le_refl _) (by omega))]
  · intro n c i hi
    show f_X10_held_L4 μ (n + 1) (nI m) (nI c) (nI i) = _
    rw [f_X10_held_L4, show (0 : Int32).toNatClampNeg = 0 from rfl, mt_at h (by decide), if_neg (nI_ge hi (by omega)), mt_isInside h hok hi hm]
    show (if (if σ (4 + 6 * i + 4) = m + 1 then (1 : Int32) else 0) = 0 then _ else _) = _
    by_cases h1 : σ (4 + 6 * i + 4) = m + 1
    · rw [if_pos h1, if_neg (by decide), if_pos h1, nI_1, nI_1]
    · rw [if_neg h1, if_pos rfl, if_neg h1, show (0 : Int32) = nI 0 from rfl, nI_add, nI_1]
