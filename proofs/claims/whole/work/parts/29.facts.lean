/-! what the start gives: classes, statics, constants; laid by wip/whole/lay5.py -/
abbrev fc_G : List Cond := flatC (Jvm.Cond.and given_1 narrow_1)
def fc_kn : List String := ["SOCK", "SHIRT", "LOAD", "OUT", "HEAT", "RUN"]
def fc_fn : List String := ["NONE", "INDEX", "ARGUMENT", "PLACE", "STATE"]
theorem fc_t {args : Array Value} {s : State} (hts : ∀ w ∈ lw_tbl, w.before args s = true) {w : Cond} {i : Nat} (h : tables_1[i]? = some w) : w.before args s = true := hts w (List.mem_append_right _ (List.mem_of_getElem? h))
theorem fc_g {args : Array Value} {s : State} (hg : ∀ w ∈ fc_G, w.before args s = true) {w : Cond} {i : Nat} (h : fc_G[i]? = some w) : w.before args s = true := hg w (List.mem_of_getElem? h)
theorem fc_kl : ∀ i, i < 6 → tables_1[([1023, 1025, 1027, 1029, 1031, 135] : List Nat).getD i 0]? = some (Cond.laysStatic "LaundryService$Keyword" (fc_kn.getD i "") "LLaundryService$Keyword;") := by decide +kernel
theorem fc_ke : ∀ i, i < 6 → fc_G[([53, 65, 78, 92, 107, 4] : List Nat).getD i 0]? = some (Cond.exactly (Term.static "LaundryService$Keyword" (fc_kn.getD i "") "LLaundryService$Keyword;") "LaundryService$Keyword") := by decide +kernel
theorem fc_kq : ∀ i, i < 6 → ∀ j, j < 6 → i ≠ j → fc_G[([0, 77, 90, 104, 119, 59, 77, 0, 91, 105, 120, 71, 90, 91, 0, 106, 121, 84, 104, 105, 106, 0, 122, 98, 119, 120, 121, 122, 0, 113, 59, 71, 84, 98, 113, 0] : List Nat).getD (6 * i + j) 0]? = some (Cond.not (Cond.eq (Term.static "LaundryService$Keyword" (fc_kn.getD i "") "LLaundryService$Keyword;") (Term.static "LaundryService$Keyword" (fc_kn.getD j "") "LLaundryService$Keyword;"))) ∨ fc_G[([0, 77, 90, 104, 119, 59, 77, 0, 91, 105, 120, 71, 90, 91, 0, 106, 121, 84, 104, 105, 106, 0, 122, 98, 119, 120, 121, 122, 0, 113, 59, 71, 84, 98, 113, 0] : List Nat).getD (6 * i + j) 0]? = some (Cond.not (Cond.eq (Term.static "LaundryService$Keyword" (fc_kn.getD j "") "LLaundryService$Keyword;") (Term.static "LaundryService$Keyword" (fc_kn.getD i "") "LLaundryService$Keyword;"))) := by decide +kernel
theorem fc_fl : ∀ i, i < 5 → tables_1[([438, 432, 434, 474, 436] : List Nat).getD i 0]? = some (Cond.laysStatic "LaundryService$Fault" (fc_fn.getD i "") "LLaundryService$Fault;") := by decide +kernel
theorem fc_fe : ∀ i, i < 5 → fc_G[([24, 12, 15, 30, 19] : List Nat).getD i 0]? = some (Cond.exactly (Term.static "LaundryService$Fault" (fc_fn.getD i "") "LLaundryService$Fault;") "LaundryService$Fault") := by decide +kernel
theorem fc_fq : ∀ i, i < 5 → ∀ j, j < 5 → i ≠ j → fc_G[([0, 27, 28, 36, 29, 27, 0, 18, 33, 22, 28, 18, 0, 34, 23, 36, 33, 34, 0, 35, 29, 22, 23, 35, 0] : List Nat).getD (5 * i + j) 0]? = some (Cond.not (Cond.eq (Term.static "LaundryService$Fault" (fc_fn.getD i "") "LLaundryService$Fault;") (Term.static "LaundryService$Fault" (fc_fn.getD j "") "LLaundryService$Fault;"))) ∨ fc_G[([0, 27, 28, 36, 29, 27, 0, 18, 33, 22, 28, 18, 0, 34, 23, 36, 33, 34, 0, 35, 29, 22, 23, 35, 0] : List Nat).getD (5 * i + j) 0]? = some (Cond.not (Cond.eq (Term.static "LaundryService$Fault" (fc_fn.getD j "") "LLaundryService$Fault;") (Term.static "LaundryService$Fault" (fc_fn.getD i "") "LLaundryService$Fault;"))) := by decide +kernel
def fc_st (k : Nat) : Term := match k with
  | 0 => .string "LaundryService$Keyword" 56
  | 1 => .string "LaundryService$Keyword" 62
  | 2 => .string "LaundryService$Keyword" 65
  | 3 => .string "LaundryService$Keyword" 68
  | 4 => .string "LaundryService$Keyword" 71
  | 5 => .string "LaundryService$Keyword" 74
  | 6 => .string "LaundryServiceModel" 207
  | _ => .string "LaundryServiceModel" 162
theorem fc_s1 : ∀ k, k < 8 → fc_G[([888, 897, 907, 916, 924, 880, 837, 820] : List Nat).getD k 0]? = some (Cond.exactly (fc_st k) "java/lang/String") := by decide +kernel
theorem fc_s2 : ∀ k, k < 8 → fc_G[([888, 897, 907, 916, 924, 880, 837, 820] : List Nat).getD k 0 + 1]? = some (Cond.eq (.field (fc_st k) "java/lang/String" "coder" "B") (.int 0)) := by decide +kernel
theorem fc_s3 : ∀ k, k < 8 → fc_G[([888, 897, 907, 916, 924, 880, 837, 820] : List Nat).getD k 0 + 2]? = some (Cond.arrayOf (.field (fc_st k) "java/lang/String" "value" "[B") .byte) := by decide +kernel
theorem fc_s4 : ∀ k, k < 8 → fc_G[([888, 897, 907, 916, 924, 880, 837, 820] : List Nat).getD k 0 + 3]? = some (Cond.eq (.length (.field (fc_st k) "java/lang/String" "value" "[B")) (.int (Int32.ofNat (fw_sl k)))) := by decide +kernel
theorem fc_s5 : ∀ k, k < 8 → ∀ j, j < fw_sl k → fc_G[([888, 897, 907, 916, 924, 880, 837, 820] : List Nat).getD k 0 + 4 + j]? = some (Cond.eq (.elem (.field (fc_st k) "java/lang/String" "value" "[B") (.int (Int32.ofNat j))) (.int (fw_sc k j))) := by decide +kernel
theorem fc_s6 : ∀ k, k < 8 → fw_sl k < 2 ^ 31 := by decide +kernel
def fc_mi (k : Nat) : Nat := ([226, 220, 228, 230, 231, 233, 207, 162] : List Nat).getD k 0
theorem fc_s7 : ∀ k, k < 6 → fc_G[([896, 906, 915, 923, 932, 887] : List Nat).getD k 0]? = some (Cond.eq (.string "LaundryServiceModel" (fc_mi k)) (fc_st k)) := by decide +kernel
theorem fc_d0 : ∀ k, k < 6 → fc_G[([56, 68, 81, 95, 110, 7] : List Nat).getD k 0]? = some (Cond.eq (.field (.static "LaundryService$Keyword" (fc_kn.getD k "") "LLaundryService$Keyword;") "LaundryService$Keyword" "firstDigits" "I") (.int (fw_kd 0 k))) := by decide +kernel
theorem fc_d1 : ∀ k, k < 6 → fc_G[([57, 69, 82, 96, 111, 8] : List Nat).getD k 0]? = some (Cond.eq (.field (.static "LaundryService$Keyword" (fc_kn.getD k "") "LLaundryService$Keyword;") "LaundryService$Keyword" "secondDigits" "I") (.int (fw_kd 1 k))) := by decide +kernel
theorem fc_d2 : ∀ k, k < 6 → fc_G[([58, 70, 83, 97, 112, 9] : List Nat).getD k 0]? = some (Cond.eq (.field (.static "LaundryService$Keyword" (fc_kn.getD k "") "LLaundryService$Keyword;") "LaundryService$Keyword" "thirdDigits" "I") (.int (fw_kd 2 k))) := by decide +kernel
theorem fc_dw : ∀ k, k < 6 → fc_G[([55, 67, 80, 94, 109, 6] : List Nat).getD k 0]? = some (Cond.eq (.field (.static "LaundryService$Keyword" (fc_kn.getD k "") "LLaundryService$Keyword;") "LaundryService$Keyword" "word" "Ljava/lang/String;") (fc_st k)) := by decide +kernel
theorem fc_a1 : fc_G[39]? = some (Cond.arrayOf (Term.static "LaundryService" "KEYWORDS" "[LLaundryService$Keyword;") (.object "LaundryService$Keyword")) := by decide +kernel
theorem fc_a2 : fc_G[40]? = some (Cond.eq (.length (Term.static "LaundryService" "KEYWORDS" "[LLaundryService$Keyword;")) (.int 6)) := by decide +kernel
theorem fc_a3 : ∀ j, j < 6 → fc_G[([42, 43, 44, 45, 46, 47] : List Nat).getD j 0]? = some (Cond.eq (.elem (Term.static "LaundryService" "KEYWORDS" "[LLaundryService$Keyword;") (.int (Int32.ofNat j))) (.static "LaundryService$Keyword" (fc_kn.getD j "") "LLaundryService$Keyword;")) := by decide +kernel
def fc_xi (k : Nat) : Nat := ([144, 156, 203, 223, 228, 232, 235, 252, 269, 285, 290, 292, 305, 315, 323, 332, 337, 342, 350, 355, 360, 365] : List Nat).getD k 0
theorem fc_x1 : ∀ k, k < 22 → fc_G[([392, 421, 485, 509, 537, 564, 591, 619, 647, 672, 692, 717, 738, 773, 798, 373, 448, 466, 212, 250, 278, 313] : List Nat).getD k 0]? = some (Cond.exactly (.string "LaundryService" (fc_xi k)) "java/lang/String") := by decide +kernel
theorem fc_r : ∀ i, i < 30 → ∃ q, fw_rs[i]? = some q ∧ tables_1[([685, 696, 815, 864, 876, 899, 908, 917, 1012, 1041, 1050, 1058, 1086, 1094, 1106, 630, 714, 745, 452, 466, 484, 501, 1361, 1511, 1497, 1512, 1513, 1514, 1515, 1516] : List Nat).getD i 0]? = some (Cond.stringRef q.1 q.2.1 q.2.2.1) := by
  intro i hi
  rcases (show i = 0 ∨ i = 1 ∨ i = 2 ∨ i = 3 ∨ i = 4 ∨ i = 5 ∨ i = 6 ∨ i = 7 ∨ i = 8 ∨ i = 9 ∨ i = 10 ∨ i = 11 ∨ i = 12 ∨ i = 13 ∨ i = 14 ∨ i = 15 ∨ i = 16 ∨ i = 17 ∨ i = 18 ∨ i = 19 ∨ i = 20 ∨ i = 21 ∨ i = 22 ∨ i = 23 ∨ i = 24 ∨ i = 25 ∨ i = 26 ∨ i = 27 ∨ i = 28 ∨ i = 29 by omega) with rfl | rfl | rfl | rfl | rfl | rfl | rfl | rfl | rfl | rfl | rfl | rfl | rfl | rfl | rfl | rfl | rfl | rfl | rfl | rfl | rfl | rfl | rfl | rfl | rfl | rfl | rfl | rfl | rfl | rfl
  · exact ⟨_, rfl, by decide +kernel⟩
  · exact ⟨_, rfl, by decide +kernel⟩
  · exact ⟨_, rfl, by decide +kernel⟩
  · exact ⟨_, rfl, by decide +kernel⟩
  · exact ⟨_, rfl, by decide +kernel⟩
  · exact ⟨_, rfl, by decide +kernel⟩
  · exact ⟨_, rfl, by decide +kernel⟩
  · exact ⟨_, rfl, by decide +kernel⟩
  · exact ⟨_, rfl, by decide +kernel⟩
  · exact ⟨_, rfl, by decide +kernel⟩
  · exact ⟨_, rfl, by decide +kernel⟩
  · exact ⟨_, rfl, by decide +kernel⟩
  · exact ⟨_, rfl, by decide +kernel⟩
  · exact ⟨_, rfl, by decide +kernel⟩
  · exact ⟨_, rfl, by decide +kernel⟩
  · exact ⟨_, rfl, by decide +kernel⟩
  · exact ⟨_, rfl, by decide +kernel⟩
  · exact ⟨_, rfl, by decide +kernel⟩
  · exact ⟨_, rfl, by decide +kernel⟩
  · exact ⟨_, rfl, by decide +kernel⟩
  · exact ⟨_, rfl, by decide +kernel⟩
  · exact ⟨_, rfl, by decide +kernel⟩
  · exact ⟨_, rfl, by decide +kernel⟩
  · exact ⟨_, rfl, by decide +kernel⟩
  · exact ⟨_, rfl, by decide +kernel⟩
  · exact ⟨_, rfl, by decide +kernel⟩
  · exact ⟨_, rfl, by decide +kernel⟩
  · exact ⟨_, rfl, by decide +kernel⟩
  · exact ⟨_, rfl, by decide +kernel⟩
  · exact ⟨_, rfl, by decide +kernel⟩
theorem fc_rl : fw_rs.length = 30 := by decide +kernel
theorem fc_rx : ∀ i, i < 22 → (fw_rs[i]?).map (fun q => (q.1, q.2.1, q.2.2.2)) = some ("LaundryService", fc_xi i, 2, i) := by decide +kernel
theorem fc_rm : ∀ i, i < 8 → (fw_rs[22 + i]?).map (fun q => (q.1, q.2.1, q.2.2.2)) = some ("LaundryServiceModel", fc_mi (([7, 6, 1, 0, 2, 3, 4, 5] : List Nat).getD i 0), 5, ([7, 6, 1, 0, 2, 3, 4, 5] : List Nat).getD i 0) := by decide +kernel
theorem fc_c : ∀ i, i < 8 → (fw_nn[i]?).bind (fun q => fc_G[([134, 149, 132, 179, 133, 135, 180, 148] : List Nat).getD i 0]? ) = (fw_nn[i]?).map (fun q => Cond.not (.castable q.1 q.2)) := by decide +kernel
