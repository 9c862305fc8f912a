/-! THE FRAME: all objects of a run stand at fixed addresses; what they hold is one memory. Own work over the kit's rows (fw_put, fw_iast and their like follow the proofs of va_put, va_iast .. line by line). -/
/-- the good words of the tables: every contract asks for its own code and for these -/
def fw_U : List Cond := lw_tbl.filter goodWord
theorem fw_inU {w : Cond} {i : Nat} (h : tables_1[i]? = some w) (hg : goodWord w = true) : w ∈ fw_U := List.mem_filter.mpr ⟨List.mem_append_right _ (List.mem_of_getElem? h), hg⟩
theorem fw_inS {w : Cond} {i : Nat} (h : (k2_sels lw_privs)[i]? = some w) (hg : goodWord w = true) : w ∈ fw_U := List.mem_filter.mpr ⟨List.mem_append_left _ (List.mem_of_getElem? h), hg⟩
theorem fw_inUs {ws : List Cond} (ps : List Nat) (h : ws = ps.filterMap (fun i => tables_1[i]?)) (hg : ws.all goodWord = true) : ∀ w ∈ ws, w ∈ fw_U := by
  intro w hw
  have hg1 := List.all_eq_true.mp hg w hw
  rw [h] at hw
  obtain ⟨i, -, hi⟩ := List.mem_filterMap.mp hw
  exact fw_inU hi hg1
abbrev fw_ws (y : MethodName) (cc : ByteArray) (maxL : Nat) (ret : Option FieldType) : List Cond := .code y cc maxL ret :: fw_U
theorem fw_gU {ws : List Cond} (h : ∀ w ∈ ws, w ∈ fw_U) : GoodIn fw_U ws := fun w hw => ⟨h w hw, good_of_word (List.mem_filter.mp (h w hw)).2⟩
theorem fw_gC {y : MethodName} {cc : ByteArray} {maxL : Nat} {ret : Option FieldType} (h : Cond.code y cc maxL ret ∈ fw_U) : GoodIn fw_U (fw_ws y cc maxL ret) := fw_gU (fun w hw => (List.mem_cons.mp hw).elim (fun e => by rw [e]; exact h) id)
theorem fw_gV {own : String} {idx : Nat} {C : String} {y : MethodName} {cc : ByteArray} {maxL : Nat} {ret : Option FieldType} (h1 : Cond.methodLink own idx y ∈ fw_U) (h2 : Cond.instanceMethod y ∈ fw_U) (h3 : Cond.selects C y y ∈ fw_U) (h4 : Cond.initialized C ∈ fw_U) (h5 : Cond.code y cc maxL ret ∈ fw_U) : GoodIn fw_U (wsV own idx C y (fw_ws y cc maxL ret)) := fw_gU (fun w hw => by
  rcases List.mem_append.mp hw with h | h
  · rcases List.mem_cons.mp h with rfl | h
    · exact h1
    rcases List.mem_cons.mp h with rfl | h
    · exact h2
    rcases List.mem_cons.mp h with rfl | h
    · exact h3
    rcases List.mem_cons.mp h with rfl | h
    · exact h4
    · exact absurd h List.not_mem_nil
  · exact (fw_gC h5 w h).1)
theorem fw_gS {own : String} {idx : Nat} {y : MethodName} {cc : ByteArray} {maxL : Nat} {ret : Option FieldType} (h1 : Cond.methodLink own idx y ∈ fw_U) (h2 : Cond.static y ∈ fw_U) (h4 : Cond.initialized y.cls ∈ fw_U) (h5 : Cond.code y cc maxL ret ∈ fw_U) : GoodIn fw_U (va_wsS own idx y (fw_ws y cc maxL ret)) := fw_gU (fun w hw => by
  rcases List.mem_append.mp hw with h | h
  · rcases List.mem_cons.mp h with rfl | h
    · exact h1
    rcases List.mem_cons.mp h with rfl | h
    · exact h2
    rcases List.mem_cons.mp h with rfl | h
    · exact h4
    · exact absurd h List.not_mem_nil
  · exact (fw_gC h5 w h).1)
/-- the memory: copy j of the cell sort f, place i -/
abbrev fw_M : Type := Nat → Nat → Nat → Int32
def fw_u (μ : fw_M) (j f i : Nat) (v : Int32) : fw_M := fun j' f' i' => if j' = j ∧ f' = f ∧ i' = i then v else μ j' f' i'
theorem fw_u_o {μ : fw_M} {j f i : Nat} {v : Int32} {j' f' : Nat} (h : ¬ (j' = j ∧ f' = f)) : fw_u μ j f i v j' f' = μ j' f' := by
  funext i'
  simp only [fw_u]
  rw [if_neg (fun z => h ⟨z.1, z.2.1⟩)]
theorem fw_u_c {μ : fw_M} {j f i : Nat} {v : Int32} : fw_u μ j f i v j f = upd (μ j f) i v := by
  funext i'
  simp only [fw_u, upd]
  by_cases h : i' = i
  · rw [if_pos ⟨trivial, trivial, h⟩, if_pos h]
  · rw [if_neg (fun z => h z.2.2), if_neg h]
/-- the numbers of the classes and their slots; the cells' addresses; the constants' addresses; the arrays' classes; the law's first address -/
abbrev fw_E : Type := va_G × (Nat → Nat → Nat) × (Nat → Nat → Nat) × (Nat → ClassId) × Nat
abbrev fw_D (E : fw_E) : va_G := E.1
abbrev fw_ad (E : fw_E) : Nat → Nat → Nat := E.2.1
abbrev fw_x (E : fw_E) : Nat → Nat → Nat := E.2.2.1
abbrev fw_cy (E : fw_E) : Nat → ClassId := E.2.2.2.1
abbrev fw_z (E : fw_E) : Nat := E.2.2.2.2
def fw_A (E : fw_E) : Nat → Prop := fun q => fw_z E ≤ q
/-- a keyword by its number, null by a number below 0; a fault by its number -/
def fw_kv (E : fw_E) (c : Int32) : Value := if c < 0 then .null else .ref (fw_x E 0 c.toNatClampNeg)
def fw_fv (E : fw_E) (c : Int32) : Value := .ref (fw_x E 1 c.toNatClampNeg)
abbrev fw_tys (E : fw_E) : List (ClassId × FieldType) := [(fw_cy E 0, .int), (fw_cy E 1, .boolean), (fw_cy E 2, .char), (fw_cy E 3, .float), (fw_cy E 4, .object "LaundryService$Command"), (fw_cy E 5, .object "LaundryService$State"), (fw_cy E 6, .long), (fw_cy E 7, .double)]
/-- what a cell is, by its sort: 0 to 8 a State and its arrays, 9 a Command, 10 the service, 11, 12 the history, 13 to 15 the text, 16, 17 the output, 18 to 26 the reference and its arrays, 27, 28 the law's two arrays -/
abbrev fw_c (E : fw_E) (o : Int64) (d : UInt64) (j f : Nat) (v : Nat → Int32) : va_E := match f with
  | 0 => .inr (6, [.ref (fw_ad E j 1), .ref (fw_ad E j 2), .ref (fw_ad E j 3), .ref (fw_ad E j 4), .ref (fw_ad E j 5), .ref (fw_ad E j 6), .int (v 6), .ref (fw_ad E j 7), .ref (fw_ad E j 8), .int (v 9)])
  | 1 => .inl (fw_cy E 0, 16, .inl v)
  | 2 => .inl (fw_cy E 1, 16, .inl v)
  | 3 => .inl (fw_cy E 0, 16, .inl v)
  | 4 => .inl (fw_cy E 0, 16, .inl v)
  | 5 => .inl (fw_cy E 0, 16, .inl v)
  | 6 => .inl (fw_cy E 0, 16, .inl v)
  | 7 => .inl (fw_cy E 0, 2, .inl v)
  | 8 => .inl (fw_cy E 3, 4, .inr (.inr (.inl (fun i => (v i).toUInt32))))
  | 9 => .inr (2, [fw_kv E (v 0), .int (v 1), .int (v 2), .int (v 3)])
  | 10 => .inr (7, [.ref (fw_ad E 0 0), .ref (fw_ad E 1 0), .ref (fw_ad E 2 0), .int (v 3), .ref (fw_ad E 0 11), .ref (fw_ad E 0 13), .ref (fw_ad E 0 16), .int (v 7), .int (v 8)])
  | 11 => .inr (4, [.ref (fw_ad E 0 12), .int (v 1), .int (v 2)])
  | 12 => .inl (fw_cy E 5, 9, .inr (.inr (.inr (.inr (fun i => some (fw_ad E (3 + i) 0))))))
  | 13 => .inr (3, [.ref (fw_ad E 0 14), .int (v 1), .int (v 2), .ref (fw_ad E 0 15), .int (v 4)])
  | 14 => .inl (fw_cy E 2, 60, .inl v)
  | 15 => .inl (fw_cy E 4, 12, .inr (.inr (.inr (.inr (fun i => some (fw_ad E i 9))))))
  | 16 => .inr (5, [.ref (fw_ad E 0 17), .int (v 1)])
  | 17 => .inl (fw_cy E 2, 176, .inl v)
  | 18 => .inr (8, [.int (v 0), .ref (fw_ad E 0 19), .ref (fw_ad E 0 20), .ref (fw_ad E 0 21), .ref (fw_ad E 0 22), .int (v 5), .int (v 6), .ref (fw_ad E 0 23), .ref (fw_ad E 0 24), .ref (fw_ad E 0 25), .ref (fw_ad E 0 26), .int (v 11), .int (v 12), .int (v 13), .int (v 14), .int (v 15), .int (v 16), .int (v 17), .int (v 18), .int (v 19)])
  | 19 => .inl (fw_cy E 0, 104, .inl v)
  | 20 => .inl (fw_cy E 0, 104, .inl v)
  | 21 => .inl (fw_cy E 0, 104, .inl v)
  | 22 => .inl (fw_cy E 0, 832, .inl v)
  | 23 => .inl (fw_cy E 0, 60, .inl v)
  | 24 => .inl (fw_cy E 0, 300, .inl v)
  | 25 => .inl (fw_cy E 0, 200, .inl v)
  | 26 => .inl (fw_cy E 0, 16, .inl v)
  | 27 => .inl (fw_cy E 6, 1, .inr (.inl (fun _ => o)))
  | _ => .inl (fw_cy E 7, 1, .inr (.inr (.inr (.inl (fun _ => d)))))
def fw_V (j f : Nat) : Prop := (f < 10 ∧ j < 12) ∨ (10 ≤ f ∧ f < 29 ∧ j = 0)
def fw_P (E : fw_E) (o : Int64) (d : UInt64) (μ : fw_M) (H : Heap) : Prop := ∀ j f : Nat, fw_V j f → va_at (fw_D E) vwCl (fw_ad E j f, fw_c E o d j f (μ j f)) H
def fw_ok (E : fw_E) : Prop := (∀ j f j' f' : Nat, fw_V j f → fw_V j' f' → fw_ad E j f = fw_ad E j' f' → j = j' ∧ f = f') ∧ (∀ j f : Nat, fw_V j f → fw_z E ≤ fw_ad E j f) ∧ (∀ i j : Nat, i < 6 → j < 6 → fw_x E 0 i = fw_x E 0 j → i = j) ∧ (∀ i j : Nat, i < 5 → j < 5 → fw_x E 1 i = fw_x E 1 j → i = j)
theorem fw_Vs {j f : Nat} (hf : f < 10) (hj : j < 12) : fw_V j f := Or.inl ⟨hf, hj⟩
theorem fw_V0 {f : Nat} (h1 : 10 ≤ f) (h2 : f < 29) : fw_V 0 f := Or.inr ⟨h1, h2, rfl⟩
theorem fw_at {E : fw_E} {o : Int64} {d : UInt64} {μ : fw_M} {H : Heap} (hP : fw_P E o d μ H) {j f : Nat} (hV : fw_V j f) : va_P (fw_D E) vwCl [(fw_ad E j f, fw_c E o d j f (μ j f))] H := by
  intro k q h
  cases k with
  | zero => cases h; exact hP j f hV
  | succ k => simp at h
theorem fw_set {E : fw_E} {o : Int64} {d : UInt64} {μ μ' : fw_M} {H H1 : Heap} {j f : Nat} (hP : fw_P E o d μ H) (hE : fw_ok E) (hV : fw_V j f) (he : va_at (fw_D E) vwCl (fw_ad E j f, fw_c E o d j f (μ' j f)) H1) (oq : ∀ q : Nat, q ≠ fw_ad E j f → H1[q]? = H[q]?) (hμ : ∀ j' f' : Nat, ¬ (j' = j ∧ f' = f) → μ' j' f' = μ j' f') : fw_P E o d μ' H1 := by
  intro j' f' hV'
  by_cases h : j' = j ∧ f' = f
  · obtain ⟨rfl, rfl⟩ := h
    exact he
  · rw [hμ j' f' h]
    exact (hP j' f' hV').kept (oq _ (fun z => h (hE.1 _ _ _ _ hV' hV z)))
theorem fw_kept {E : fw_E} {o : Int64} {d : UInt64} {μ : fw_M} {H H1 : Heap} (hP : fw_P E o d μ H) (h : ∀ q : Nat, q < H.size → H1[q]? = H[q]?) : fw_P E o d μ H1 := fun j f hV => (hP j f hV).kept (h _ (hP j f hV).lt)
/-- what stands outside: words that are no good words, statics, String constants, the keywords' fields; lists that a later part may lengthen -/
def fw_nw : List (String × Nat × MethodName × String) := [(RX7, 45, yX9_isClient, RX9), (RX7, 67, yX9_isMachine, RX9), (RX9, 42, yX5_init, RX9), (RX1, 31, yX0_init, RX9)]
def fw_nc : List String := ["java/lang/IndexOutOfBoundsException", "java/lang/IllegalArgumentException", "java/lang/IllegalStateException", "java/lang/UnsupportedOperationException", "java/util/NoSuchElementException", "java/lang/ArithmeticException"]
def fw_zs (E : fw_E) : List (String × String × String × Value) := [("LaundryService$Fault", "NONE", "LLaundryService$Fault;", .ref (fw_x E 1 0)), ("LaundryService$Fault", "INDEX", "LLaundryService$Fault;", .ref (fw_x E 1 1)), ("LaundryService$Fault", "ARGUMENT", "LLaundryService$Fault;", .ref (fw_x E 1 2)), ("LaundryService$Fault", "PLACE", "LLaundryService$Fault;", .ref (fw_x E 1 3)), ("LaundryService$Fault", "STATE", "LLaundryService$Fault;", .ref (fw_x E 1 4)),
  ("LaundryService$Keyword", "SOCK", "LLaundryService$Keyword;", .ref (fw_x E 0 0)), ("LaundryService$Keyword", "SHIRT", "LLaundryService$Keyword;", .ref (fw_x E 0 1)), ("LaundryService$Keyword", "LOAD", "LLaundryService$Keyword;", .ref (fw_x E 0 2)), ("LaundryService$Keyword", "OUT", "LLaundryService$Keyword;", .ref (fw_x E 0 3)), ("LaundryService$Keyword", "HEAT", "LLaundryService$Keyword;", .ref (fw_x E 0 4)), ("LaundryService$Keyword", "RUN", "LLaundryService$Keyword;", .ref (fw_x E 0 5)),
  ("LaundryService", "KEYWORDS", "[LLaundryService$Keyword;", .ref (fw_x E 4 0)), ("java/lang/String", "COMPACT_STRINGS", "Z", .int 1)]
/-- a String constant: where it is named, its text, its address by sort and place -/
def fw_rs : List (String × Nat × String × Nat × Nat) := [(RX9, 144, "only a sock has a partner", 2, 0), (RX9, 156, "the sock has no partner", 2, 1), (RX9, 203, "the machine is empty", 2, 2), (RX9, 223, "no garment has this rank", 2, 3), (RX9, 228, "no client has this rank", 2, 4), (RX9, 232, "no garments have a mean", 2, 5), (RX9, 235, "no garments have a share", 2, 6), (RX9, 252, "the input buffer is full", 2, 7), (RX9, 269, "the text is malformed", 2, 8), (RX9, 285, "a command failed", 2, 9), (RX9, 290, "no text was malformed", 2, 10), (RX9, 292, "no command failed", 2, 11), (RX9, 305, "no such character of the output", 2, 12), (RX9, 315, "no call can be undone", 2, 13), (RX9, 323, "no state was saved", 2, 14), (RX9, 332, "no such garment", 2, 15), (RX9, 337, "no such client", 2, 16), (RX9, 342, "no such machine", 2, 17), (RX9, 350, "no such client, garment or machine", 2, 18), (RX9, 355, "a number is out of range", 2, 19), (RX9, 360, "the garment is at another place", 2, 20), (RX9, 365, "the service or the machine is full, or the machine empty", 2, 21), (RX10, 162, "b01x", 5, 7), (RX10, 207, " ", 5, 6), (RX10, 220, "shirt", 5, 1), (RX10, 226, "sock", 5, 0), (RX10, 228, "load", 5, 2), (RX10, 230, "out", 5, 3), (RX10, 231, "heat", 5, 4), (RX10, 233, "run", 5, 5)]
/-- the texts that are read: sock shirt load out heat run, a blank, b01x -/
def fw_sb : List (List Int32) := [[115, 111, 99, 107], [115, 104, 105, 114, 116], [108, 111, 97, 100], [111, 117, 116], [104, 101, 97, 116], [114, 117, 110], [32], [98, 48, 49, 120]]
def fw_sl (k : Nat) : Nat := (fw_sb.getD k []).length
def fw_sc (k : Nat) : Nat → Int32 := fun i => (fw_sb.getD k []).getD i 0
def fw_cs (E : fw_E) (U : State) (H : Heap) : Prop := va_T (.object "LaundryService$Keyword") (fw_x E 4 0) 6 (fun i => .ref (fw_x E 0 i)) (fw_A E) U H ∧ ∀ k, k < 8 → va_O "java/lang/String" (fw_x E 5 k) (fw_A E) U H ∧ va_OF "java/lang/String" "coder" "B" (.int 0) (fw_x E 5 k) (fw_A E) U H ∧ va_OF "java/lang/String" "value" "[B" (.ref (fw_x E 6 k)) (fw_x E 5 k) (fw_A E) U H ∧ va_T .byte (fw_x E 6 k) (fw_sl k) (fun j => .int (fw_sc k j)) (fw_A E) U H
theorem fw_cs_go {E : fw_E} {u U : State} {H H1 : Heap} (h : fw_cs E u H) (hvm : u.vm.Alike U.vm) (hq : ∀ a : Nat, a < H.size → ¬ fw_A E a → H1[a]? = H[a]?) : fw_cs E U H1 :=
  ⟨(va_T.moved hvm h.1).kept hq, fun k hk => ⟨(va_O.moved hvm (h.2 k hk).1).kept hq, (va_OF.moved hvm (h.2 k hk).2.1).kept hq, (va_OF.moved hvm (h.2 k hk).2.2.1).kept hq, (va_T.moved hvm (h.2 k hk).2.2.2).kept hq⟩⟩
def fw_kd (r k : Nat) : Int32 := (([[1, 1, 2, 2, 1, 1], [1, 1, 1, 0, 2, 0], [3, 3, 0, 0, 0, 0]] : List (List Int32)).getD r []).getD k 0
def fw_kf (E : fw_E) : List (String × String × (Nat → Value)) := [("word", "Ljava/lang/String;", fun k => .ref (fw_x E 5 k)), ("firstDigits", "I", fun k => .int (fw_kd 0 k)), ("secondDigits", "I", fun k => .int (fw_kd 1 k)), ("thirdDigits", "I", fun k => .int (fw_kd 2 k))]
def fw_nd : List MethodName := [⟨"java/lang/RuntimeException", "<init>", "(Ljava/lang/String;)V"⟩, ⟨"java/lang/Exception", "<init>", "(Ljava/lang/String;)V"⟩, ⟨"java/lang/Throwable", "<init>", "(Ljava/lang/String;)V"⟩]
def fw_zq : List (String × String × String) := [(Bundle.tN, "UNASSIGNED_STACK", Bundle.steD), (Bundle.tN, "SUPPRESSED_SENTINEL", Bundle.listD), ("jdk/internal/util/Preconditions", "SIOOBE_FORMATTER", "Ljava/util/function/BiFunction;")]
def fw_S (E : fw_E) (U : State) (H : Heap) : Prop := ((∀ q ∈ fw_nw, va_Nw (.methodLinkNest q.1 q.2.1 q.2.2.1 q.2.2.2) U) ∧ (∀ q ∈ fw_nc, va_Nw (.castable q q) U) ∧ (∀ q ∈ fw_nd, va_Nw (.declares q) U) ∧ va_Nw (.fieldLinkNest RX1 72 RX9 "KEYWORDS" "[LLaundryService$Keyword;" RX9) U) ∧ (∀ q ∈ fw_zs E, va_Z q.1 q.2.1 q.2.2.1 q.2.2.2 (fw_A E) U H) ∧ (∀ q ∈ fw_zq, vx_Zq q.1 q.2.1 q.2.2 (fw_A E) U H) ∧ (∀ q ∈ fw_rs, vk_R q.1 q.2.1 q.2.2.1 (fw_x E q.2.2.2.1 q.2.2.2.2) U) ∧ fw_cs E U H ∧ (∀ q ∈ fw_kf E, va_Ef 6 "LaundryService$Keyword" q.1 q.2.1 q.2.2 (fw_x E 0) (fw_A E) U H)
theorem fw_S_go {E : fw_E} {u U : State} {H H1 : Heap} (h : fw_S E u H) (hW : u.WarmedH U.vm) (hq : ∀ a : Nat, a < H.size → ¬ fw_A E a → H1[a]? = H[a]?) : fw_S E U H1 := by
  obtain ⟨⟨h1, h1b, h1c, h1d⟩, h2, h3, h4, h5, h6⟩ := h
  exact ⟨⟨fun q hm => (h1 q hm).warmM hW, fun q hm => (h1b q hm).warmC hW, fun q hm => (h1c q hm).warmD hW, h1d.warmF hW⟩, fun q hm => ((h2 q hm).moved hW.alike).kept hq, fun q hm => ((h3 q hm).moved hW.alike).kept hq, fun q hm => (h4 q hm).warm hW, fw_cs_go h5 hW.alike hq, fun q hm => va_Ef.kept (va_Ef.moved hW.alike (h6 q hm)) hq⟩
theorem fw_S_vm {E : fw_E} {u U : State} {H : Heap} (h : fw_S E u H) (hv : U.vm = u.vm) : fw_S E U H := by
  have ha : u.vm.Alike U.vm := by rw [hv]; exact Vm.Alike.refl u.vm
  obtain ⟨⟨h1, h1b, h1c, h1d⟩, h2, h3, h4, h5, h6⟩ := h
  exact ⟨⟨fun q hm => (h1 q hm).same rfl hv.symm, fun q hm => (h1b q hm).same rfl hv.symm, fun q hm => (h1c q hm).same rfl hv.symm, h1d.same rfl hv.symm⟩, fun q hm => (h2 q hm).moved ha, fun q hm => (h3 q hm).moved ha, fun q hm => (h4 q hm).same hv, fw_cs_go h5 ha (fun _ _ _ => rfl), fun q hm => va_Ef.moved ha (h6 q hm)⟩
def fw_Pre (E : fw_E) (o : Int64) (d : UInt64) (μ : fw_M) (U : State) : Prop := va_K (fw_D E) vwCl (fw_tys E) U ∧ fw_P E o d μ U.heap ∧ fw_S E U U.heap
def fw_Q (E : fw_E) (o : Int64) (d : UInt64) (rv : Option Value) (μ : fw_M) : Array Value → State → Outcome → State → Prop := fun _ st oc t => oc = .returned rv ∧ fw_P E o d μ t.heap ∧ va_F (fw_A E) st t
/-- a method that may throw: k = 0 it returns, else it throws the k-th -/
def fw_xn (k : Nat) : String := match k with
  | 1 => "java/lang/IndexOutOfBoundsException"
  | 2 => "java/lang/IllegalArgumentException"
  | 3 => "java/lang/IllegalStateException"
  | 4 => "java/lang/UnsupportedOperationException"
  | 5 => "java/util/NoSuchElementException"
  | _ => "java/lang/ArithmeticException"
def fw_QR (E : fw_E) (o : Int64) (d : UInt64) (k : Nat) (rv : Option Value) (μ : fw_M) : Array Value → State → Outcome → State → Prop := fun a st oc t => k = 0 ∧ fw_Q E o d rv μ a st oc t
def fw_XC (E : fw_E) (o : Int64) (d : UInt64) (k : Nat) (μ : fw_M) : String → State → State → Prop := fun nm st t => k ≠ 0 ∧ nm = fw_xn k ∧ fw_P E o d μ t.heap ∧ va_F (fw_A E) st t
theorem fw_blind {E : fw_E} {o : Int64} {d : UInt64} {μ : fw_M} {av : List Value} : FrameBlind (va_Pc av (fw_Pre E o d μ)) := fun a U g mk q => ⟨q.1, va_K.moved (u := U) (U := U.calling g mk a) (Vm.Alike.refl U.vm) q.2.1, q.2.2.1, fw_S_vm q.2.2.2 rfl⟩
theorem fw_pre {E : fw_E} {o : Int64} {d : UInt64} {μ : fw_M} {s : State} {H : Heap} {locs : List Loc} (hK : va_K (fw_D E) vwCl (fw_tys E) s) (hP : fw_P E o d μ H) (hSt : fw_S E s s.heap) (hS : va_S (fw_A E) s.heap H locs) (U : State) (hU : U.heap = H) (hW : s.WarmedH U.vm) : fw_Pre E o d μ U :=
  ⟨va_K.moved hW.alike hK, by rw [hU]; exact hP, fw_S_go hSt hW (fun a h1 h2 => by rw [hU]; exact hS.2.1 a h1 h2)⟩
theorem fw_recv {E : fw_E} {o : Int64} {d : UInt64} {μ : fw_M} {s : State} {H : Heap} {j f ci : Nat} {q : vw_C} {fs : List Value} (hK : va_K (fw_D E) vwCl (fw_tys E) s) (hP : fw_P E o d μ H) (hV : fw_V j f) (he : fw_c E o d j f (μ j f) = .inr (ci, fs)) (hc : vwCl[ci]? = some q) : ∃ cell : Cell, H[fw_ad E j f]? = some cell ∧ cell.vm.isStatics = false ∧ s.vm.findClass q.1 = some cell.cls := va_recv (q0 := 0) hK (fw_at hP hV) hc (by rw [he]; rfl)
/-- guards -/
def fw_g {α : Type} (b : Bool) (x : Option α) : Option α := if b = true then x else none
theorem fw_g_e {α : Type} {b : Bool} {x : Option α} {r : α} (h : fw_g b x = some r) : b = true ∧ x = some r := by
  unfold fw_g at h
  split at h
  · exact ⟨by assumption, h⟩
  · cases h
def fw_l {α β : Type} (x : α) (f : α → Option β) : Option β := f x
theorem fw_l_e {α β : Type} {x : α} {f : α → Option β} {r : β} (h : fw_l x f = some r) : ∃ y, y = x ∧ f y = some r := ⟨x, rfl, h⟩
def fw_bo (x : Int32) : Bool := decide (x = 0) || decide (x = 1)
theorem fw_bo_e {x : Int32} (h : fw_bo x = true) : narrow .boolean (.int x) = .int x := by
  simp only [fw_bo, Bool.or_eq_true, decide_eq_true_eq] at h
  rcases h with rfl | rfl <;> rfl
def fw_ch (x : Int32) : Bool := decide ((x.toUInt32 % 65536).toInt32 = x)
theorem fw_ch_e {x : Int32} (h : fw_ch x = true) : narrow .char (.int x) = .int x := by
  have h1 : (x.toUInt32 % 65536).toInt32 = x := of_decide_eq_true h
  have h2 := pk_nc x
  rw [h1] at h2
  exact h2
def fw_ns (x : Int32) : Bool := !(vn_sni2f x)
theorem fw_ns_e {x : Int32} (h : fw_ns x = true) : vn_sni2f x = false := by
  simpa [fw_ns] using h
def fw_in (i : Int32) (n : Nat) : Bool := !(decide (i < 0) || decide (n ≤ i.toNatClampNeg))
theorem fw_in_e {i : Int32} {n : Nat} (h : fw_in i n = true) : vp_in i n := by
  intro z
  simp only [fw_in, Bool.not_eq_true', Bool.or_eq_false_iff, decide_eq_false_iff_not] at h
  rcases z with z | z
  · exact h.1 z
  · exact h.2 z
theorem fw_in_lt {i : Int32} {n : Nat} (h : fw_in i n = true) : i.toNatClampNeg < n := Nat.not_le.mp fun q => fw_in_e h (Or.inr q)
theorem fw_row {i : Int32} (h : fw_in i 9 = true) : 3 + i.toNatClampNeg < 12 := by have := fw_in_lt h; omega
def fw_nz (i : Int32) : Bool := decide (¬ i = 0)
theorem fw_nz_e {i : Int32} (h : fw_nz i = true) : ¬ i = 0 := of_decide_eq_true h
def fw_f32 (r : UInt32) : Bool := decide (r &&& 0x7fffffff ≤ 0x7f800000)
theorem fw_f32_e {r : UInt32} (h : fw_f32 r = true) : vf_n32 r := by
  show r &&& 0x7fffffff ≤ 0x7f800000
  exact of_decide_eq_true h
def fw_f64 (r : UInt64) : Bool := decide (r &&& 0x7fffffffffffffff ≤ 0x7ff0000000000000)
theorem fw_f64_e {r : UInt64} (h : fw_f64 r = true) : vf_n64 r := by
  show r &&& 0x7fffffffffffffff ≤ 0x7ff0000000000000
  exact of_decide_eq_true h
/-- binds: of a method that only reads, of one that writes, of one that may throw -/
def fw_b1 {α β : Type} (x : Option α) (f : α → Option β) : Option β := match x with
  | none => none
  | some a => f a
theorem fw_b1_e {α β : Type} {x : Option α} {f : α → Option β} {r : β} (h : fw_b1 x f = some r) : ∃ a, x = some a ∧ f a = some r := by
  cases x with
  | none => cases h
  | some a => exact ⟨a, rfl, h⟩
def fw_b2 {α β : Type} (x : Option (fw_M × α)) (f : fw_M → α → Option β) : Option β := match x with
  | none => none
  | some (a, b) => f a b
theorem fw_b2_e {α β : Type} {x : Option (fw_M × α)} {f : fw_M → α → Option β} {r : β} (h : fw_b2 x f = some r) : ∃ a b, x = some (a, b) ∧ f a b = some r := by
  cases x with
  | none => cases h
  | some a => exact ⟨a.1, a.2, rfl, h⟩
def fw_b3 {α β : Type} (x : Option (fw_M × α × Nat)) (f : fw_M → α → Nat → Option β) : Option β := match x with
  | none => none
  | some (a, b, k) => f a b k
theorem fw_b3_e {α β : Type} {x : Option (fw_M × α × Nat)} {f : fw_M → α → Nat → Option β} {r : β} (h : fw_b3 x f = some r) : ∃ a b k, x = some (a, b, k) ∧ f a b k = some r := by
  cases x with
  | none => cases h
  | some a => exact ⟨a.1, a.2.1, a.2.2, rfl, h⟩
section FWR
variable {p : Program} {l : Launch} {e : Env} {R : Room} {s : State} {m : MethodId} {args : Array Value} {below : List Frame} {meth : Method} {c : Code} {H : Heap} {locs : List Loc} {cells slots : Nat} {Q : State → Prop}
variable {cc : ByteArray} {pc : Nat} {ls : Array Slot} {rest st0 : List Value} {E : fw_E} {o : Int64} {d : UInt64} {μ μ' : fw_M}
theorem fw_put (hexec : p.tables.exec = Jvm.exec) (hb : c.code = cc) {own ref C : String} {T : u_T} {N ci index : Nat} {Ts : List Cond} (hts : ∀ w ∈ Ts, w.before args s = true) (hin : ∀ w ∈ u_ws C T N, w ∈ Ts) (ty0 : Nat → FieldType) (hty : ∀ k, k < N → parseFieldDescriptor (T k).2.2.1 = some (ty0 k)) (hnm : ∀ a, a < N → ∀ b, b < N → a ≠ b → (T a).2.1 ≠ (T b).2.1) (hown : s.vm.findClass own = some m.cls) (hK : va_K (fw_D E) vwCl (fw_tys E) s) (hP : fw_P E o d μ H) (hE : fw_ok E) (hS0 : va_S (fw_A E) s.heap H locs) {j f : Nat} (hV : fw_V j f) {fs : List Value} (he : fw_c E o d j f (μ j f) = .inr (ci, fs)) (hc : vwCl[ci]? = some (C, T, N)) (k : Nat) (hk : k < N) (hlink : (Cond.fieldLink own index ref (T k).2.1 (T k).2.2.1).before args s = true) (hsame : ∀ x, s.fieldFound? (T k).1 (T k).2.1 (T k).2.2.1 = some x → s.fieldFound? ref (T k).2.1 (T k).2.2.1 = some x) (hfin : (T k).2.2.2 = false) {ty : FieldType} {v : Value} (hd : parseFieldDescriptor (T k).2.2.1 = some ty) (hn : narrow ty v = v) (hfit : fits ty v = true) (hl : k < fs.length)
    (i : Nat) (x : Int32) (he' : fw_c E o d j f (fw_u μ j f i x j f) = .inr (ci, fs.set k v)) (hdg : decode cc pc = .ok (.putfield index, 3)) (kk : ∀ (H1 : Heap) (locs1 : List Loc), fw_P E o d (fw_u μ j f i x) H1 → va_S (fw_A E) s.heap H1 locs1 → W p l e R s m args below meth c H1 locs1 cells slots Q (F0 m (pc + 3) ls rest)) : W p l e R s m args below meth c H locs cells slots Q (F0 m pc ls (v :: .ref (fw_ad E j f) :: rest)) := by
  have hap := va_apart (own := own) hts hin ty0 hty hnm hK hc
  have hat := hP j f hV
  rw [he] at hat
  obtain ⟨r, h1, cell, q1, q2, q3, q4⟩ := hat
  have hr : r = (C, T, N) := Option.some.inj (h1.symm.trans hc)
  subst hr
  obtain ⟨hS, hfc, kC, hkC, hkind⟩ := hK.1 ci _ hc
  obtain ⟨cf, kf, fi, g, hi, hsl⟩ := hS k hk
  have hlay := hts _ (hin _ (u_in_lay hk))
  unfold u_lay at hlay
  rw [if_neg (by rw [hfin]; decide)] at hlay
  have hst := (u_facts hfc hkC (u_lays hts hin hk) hi).1
  have h6 := u_store hfc hkC hkind hlay hi hd hn hfit
  refine W.putK hexec hb (f := g) ⟨hown, hlink, ⟨_, _, _, hsame _ hi⟩, hst⟩ (by rw [q2]; exact h6) q1 q3 (by rw [hsl]; exact k2_hasslot (q4 k hk)) rfl rfl hdg fun H' e1 e2 e3 => ?_
  rw [hsl] at e1 ⊢
  refine kk H' _ (fw_set hP hE hV ?_ e3 (fun j' f' h => fw_u_o h)) (hS0.put e2 e3 (hE.2.1 j f hV))
  rw [he']
  exact ⟨_, hc, t_OB.to (V := updV (vp_V fs) k v) ⟨_, e1, q2, q3, t_set q4 hap hk v⟩ (fun j _ => vp_updV_set hl v j)⟩
theorem fw_iast (hexec : p.tables.exec = Jvm.exec) (hb : c.code = cc) (hK : va_K (fw_D E) vwCl (fw_tys E) s) (hP : fw_P E o d μ H) (hE : fw_ok E) (hS : va_S (fw_A E) s.heap H locs) {j f n : Nat} (hV : fw_V j f) (hc : ∀ v, fw_c E o d j f v = .inl (fw_cy E 0, n, .inl v)) {i x : Int32} (hin : vp_in i n) (hdg : decode cc pc = .ok (.iastore, 1))
    (kk : ∀ (H1 : Heap) (locs1 : List Loc), fw_P E o d (fw_u μ j f i.toNatClampNeg x) H1 → va_S (fw_A E) s.heap H1 locs1 → W p l e R s m args below meth c H1 locs1 cells slots Q (F0 m (pc + 1) ls rest)) : W p l e R s m args below meth c H locs cells slots Q (F0 m pc ls (.int x :: .int i :: .ref (fw_ad E j f) :: rest)) := by
  have hat := hP j f hV
  rw [hc] at hat
  refine W.iast hexec hb hat ((hK.2 0 _ rfl).1 n (fun q => .int (μ j f q))) (fun q => by cases q) (by show ¬ (i < 0 ∨ (arrV _ _ _).slots.size ≤ _); rw [arrV_size]; exact hin) rfl rfl hdg fun H1 e z oq => ?_
  refine kk H1 _ (fw_set hP hE hV ?_ oq (fun j' f' h => fw_u_o h)) (hS.put z oq (hE.2.1 j f hV))
  rw [fw_u_c, hc]
  show H1[_]? = some (vp_cell _ _)
  rw [e]
  rw [vp_cell_i, vp_cell_i, arrV_store]
  congr 2
  funext q
  by_cases hq : q = i.toNatClampNeg
  · subst hq
    simp [updV, upd]
  · simp [updV, upd, hq]
theorem fw_zast (hexec : p.tables.exec = Jvm.exec) (hb : c.code = cc) (hK : va_K (fw_D E) vwCl (fw_tys E) s) (hP : fw_P E o d μ H) (hE : fw_ok E) (hS : va_S (fw_A E) s.heap H locs) {j f n : Nat} (hV : fw_V j f) (hc : ∀ v, fw_c E o d j f v = .inl (fw_cy E 1, n, .inl v)) {i x : Int32} (hin : vp_in i n) (hdg : decode cc pc = .ok (.bastore, 1))
    (kk : ∀ (H1 : Heap) (locs1 : List Loc), fw_P E o d (fw_u μ j f i.toNatClampNeg (vp_nar .boolean x)) H1 → va_S (fw_A E) s.heap H1 locs1 → W p l e R s m args below meth c H1 locs1 cells slots Q (F0 m (pc + 1) ls rest)) : W p l e R s m args below meth c H locs cells slots Q (F0 m pc ls (.int x :: .int i :: .ref (fw_ad E j f) :: rest)) := by
  have hat := hP j f hV
  rw [hc] at hat
  refine W.zast hexec hb hat ((hK.2 1 _ rfl).1 n (fun q => .int (μ j f q))) (fun q => by cases q) (by show ¬ (i < 0 ∨ (arrV _ _ _).slots.size ≤ _); rw [arrV_size]; exact hin) rfl rfl hdg fun H1 e z oq => ?_
  refine kk H1 _ (fw_set hP hE hV ?_ oq (fun j' f' h => fw_u_o h)) (hS.put z oq (hE.2.1 j f hV))
  rw [fw_u_c, hc]
  show H1[_]? = some (vp_cell _ _)
  rw [e]
  rw [vp_cell_i, vp_cell_i, arrV_store]
  congr 2
  funext q
  by_cases hq : q = i.toNatClampNeg
  · subst hq
    simp [updV, upd, vp_nar]
    try rfl
  · simp [updV, upd, hq]
theorem fw_cast (hexec : p.tables.exec = Jvm.exec) (hb : c.code = cc) (hK : va_K (fw_D E) vwCl (fw_tys E) s) (hP : fw_P E o d μ H) (hE : fw_ok E) (hS : va_S (fw_A E) s.heap H locs) {j f n : Nat} (hV : fw_V j f) (hc : ∀ v, fw_c E o d j f v = .inl (fw_cy E 2, n, .inl v)) {i x : Int32} (hin : vp_in i n) (hdg : decode cc pc = .ok (.castore, 1))
    (kk : ∀ (H1 : Heap) (locs1 : List Loc), fw_P E o d (fw_u μ j f i.toNatClampNeg (vp_nar .char x)) H1 → va_S (fw_A E) s.heap H1 locs1 → W p l e R s m args below meth c H1 locs1 cells slots Q (F0 m (pc + 1) ls rest)) : W p l e R s m args below meth c H locs cells slots Q (F0 m pc ls (.int x :: .int i :: .ref (fw_ad E j f) :: rest)) := by
  have hat := hP j f hV
  rw [hc] at hat
  refine W.cast hexec hb hat ((hK.2 2 _ rfl).1 n (fun q => .int (μ j f q))) (fun q => by cases q) (by show ¬ (i < 0 ∨ (arrV _ _ _).slots.size ≤ _); rw [arrV_size]; exact hin) rfl rfl hdg fun H1 e z oq => ?_
  refine kk H1 _ (fw_set hP hE hV ?_ oq (fun j' f' h => fw_u_o h)) (hS.put z oq (hE.2.1 j f hV))
  rw [fw_u_c, hc]
  show H1[_]? = some (vp_cell _ _)
  rw [e]
  rw [vp_cell_i, vp_cell_i, arrV_store]
  congr 2
  funext q
  by_cases hq : q = i.toNatClampNeg
  · subst hq
    simp [updV, upd, vp_nar]
    try rfl
  · simp [updV, upd, hq]
theorem fw_fast (hexec : p.tables.exec = Jvm.exec) (hb : c.code = cc) (hK : va_K (fw_D E) vwCl (fw_tys E) s) (hP : fw_P E o d μ H) (hE : fw_ok E) (hS : va_S (fw_A E) s.heap H locs) {j f n : Nat} (hV : fw_V j f) (hc : ∀ v, fw_c E o d j f v = .inl (fw_cy E 3, n, .inr (.inr (.inl (fun i => (v i).toUInt32))))) {i : Int32} {x : UInt32} (hin : vp_in i n) (hdg : decode cc pc = .ok (.fastore, 1))
    (kk : ∀ (H1 : Heap) (locs1 : List Loc), fw_P E o d (fw_u μ j f i.toNatClampNeg x.toInt32) H1 → va_S (fw_A E) s.heap H1 locs1 → W p l e R s m args below meth c H1 locs1 cells slots Q (F0 m (pc + 1) ls rest)) : W p l e R s m args below meth c H locs cells slots Q (F0 m pc ls (.float x :: .int i :: .ref (fw_ad E j f) :: rest)) := by
  have hat := hP j f hV
  rw [hc] at hat
  refine W.fast hexec hb hat ((hK.2 3 _ rfl).1 n (fun q => .float (μ j f q).toUInt32)) (fun q => by cases q) (by show ¬ (i < 0 ∨ (arrV _ _ _).slots.size ≤ _); rw [arrV_size]; exact hin) rfl rfl hdg fun H1 e z oq => ?_
  refine kk H1 _ (fw_set hP hE hV ?_ oq (fun j' f' h => fw_u_o h)) (hS.put z oq (hE.2.1 j f hV))
  rw [fw_u_c, hc]
  show H1[_]? = some (vp_cell _ _)
  rw [e]
  rw [vp_cell_f, vp_cell_f, arrV_store]
  congr 2
  funext q
  by_cases hq : q = i.toNatClampNeg
  · subst hq
    simp [updV, upd]
  · simp [updV, upd, hq]
/-- behind a call that returns a value, that returns none -/
theorem fw_ret {a : Array Value} {v : Value} (hr : va_Run p l e R s m args below meth c H locs cells slots 0 0 (F0 m pc ls st0) rest (fw_Q E o d (some v) μ' a) (fw_A E)) (hS : va_S (fw_A E) s.heap H locs)
    (kk : ∀ (H1 : Heap) (locs1 : List Loc), fw_P E o d μ' H1 → va_S (fw_A E) s.heap H1 locs1 → W p l e R s m args below meth c H1 locs1 cells slots Q (F0 m (pc + 3) ls (v :: rest))) : W p l e R s m args below meth c H locs cells slots Q (F0 m pc ls st0) := by
  intro T hT X
  obtain ⟨v', st₀, t, T', L, h0, X', hL, e1, e2, ⟨hv, hp, hz, hk⟩, st⟩ := hr T hT X
  cases hv
  rw [h0] at hz hk
  obtain ⟨t2, a1, b1⟩ := kk T'.heap (locs ++ L) (by rw [e1]; exact hp) ⟨Nat.le_trans hS.1 (by rw [e1]; exact hz), fun q h1 h2 => by rw [e1, hk q (Nat.lt_of_lt_of_le h1 hS.1) h2]; exact hS.2.1 q h1 h2, fun q hq => by
      rcases List.mem_append.mp hq with h | h
      · exact hS.2.2 q h
      · exact hL q h⟩ T' rfl X'
  exact ⟨t2, st t2 a1, b1⟩
theorem fw_retv {a : Array Value} (hr : va_Run p l e R s m args below meth c H locs cells slots 0 0 (F0 m pc ls st0) rest (fw_Q E o d none μ' a) (fw_A E)) (hS : va_S (fw_A E) s.heap H locs)
    (kk : ∀ (H1 : Heap) (locs1 : List Loc), fw_P E o d μ' H1 → va_S (fw_A E) s.heap H1 locs1 → W p l e R s m args below meth c H1 locs1 cells slots Q (F0 m (pc + 3) ls rest)) : W p l e R s m args below meth c H locs cells slots Q (F0 m pc ls st0) := by
  intro T hT X
  obtain ⟨v', st₀, t, T', L, h0, X', hL, e1, e2, ⟨hv, hp, hz, hk⟩, st⟩ := hr T hT X
  cases hv
  rw [h0] at hz hk
  obtain ⟨t2, a1, b1⟩ := kk T'.heap (locs ++ L) (by rw [e1]; exact hp) ⟨Nat.le_trans hS.1 (by rw [e1]; exact hz), fun q h1 h2 => by rw [e1, hk q (Nat.lt_of_lt_of_le h1 hS.1) h2]; exact hS.2.1 q h1 h2, fun q hq => by
      rcases List.mem_append.mp hq with h | h
      · exact hS.2.2 q h
      · exact hL q h⟩ T' rfl X'
  exact ⟨t2, st t2 a1, b1⟩
/-- behind a call that may throw -/
theorem fw_xret {a : Array Value} {v : Value} {k mc ms : Nat} (hr : vx_Run p l e R s m args below meth c H locs cells slots mc ms (F0 m pc ls st0) rest (fw_QR E o d k (some v) μ' a) (fw_XC E o d k μ') (fw_A E)) (hS : va_S (fw_A E) s.heap H locs)
    (kk : k = 0 → ∀ (H1 : Heap) (locs1 : List Loc), fw_P E o d μ' H1 → va_S (fw_A E) s.heap H1 locs1 → W p l e R s m args below meth c H1 locs1 (cells + mc) (slots + ms) Q (F0 m (pc + 3) ls (v :: rest)))
    (kx : k ≠ 0 → ∀ (H1 : Heap) (locs1 : List Loc) (q : Nat) (ce : Cell), fw_P E o d μ' H1 → va_S (fw_A E) s.heap H1 locs1 → H1[q]? = some ce → ce.vm = .none → s.vm.findClass (fw_xn k) = some ce.cls → vx_W p l e R s m args below meth c H1 locs1 (cells + mc) (slots + ms) Q (F0 m pc ls rest) q) : W p l e R s m args below meth c H locs cells slots Q (F0 m pc ls st0) := by
  intro T hT X
  rcases hr T hT X with ⟨v', st₀, t, T', L, h0, X', hL, e1, e2, ⟨hk0, hv, hp, hz, hk⟩, st⟩ | ⟨q, st₀, t, T', L, nm, ce, h0, X', hL, e1, e2, ⟨hk0, hnm, hp, hz, hk⟩, hce, hcv, hcl, st⟩
  · cases hv
    rw [h0] at hz hk
    obtain ⟨t2, a1, b1⟩ := kk hk0 T'.heap (locs ++ L) (by rw [e1]; exact hp) ⟨Nat.le_trans hS.1 (by rw [e1]; exact hz), fun q h1 h2 => by rw [e1, hk q (Nat.lt_of_lt_of_le h1 hS.1) h2]; exact hS.2.1 q h1 h2, fun q hq => by
        rcases List.mem_append.mp hq with h | h
        · exact hS.2.2 q h
        · exact hL q h⟩ T' rfl X'
    exact ⟨t2, st t2 a1, b1⟩
  · subst hnm
    rw [h0] at hz hk
    obtain ⟨t2, a1, b1⟩ := kx hk0 T'.heap (locs ++ L) q ce (by rw [e1]; exact hp) ⟨Nat.le_trans hS.1 (by rw [e1]; exact hz), fun q h1 h2 => by rw [e1, hk q (Nat.lt_of_lt_of_le h1 hS.1) h2]; exact hS.2.1 q h1 h2, fun q hq => by
        rcases List.mem_append.mp hq with h | h
        · exact hS.2.2 q h
        · exact hL q h⟩ (by rw [e1]; exact hce) hcv hcl T' rfl X'
    exact ⟨t2, st.trans a1, b1⟩
theorem fw_xretv {a : Array Value} {k mc ms : Nat} (hr : vx_Run p l e R s m args below meth c H locs cells slots mc ms (F0 m pc ls st0) rest (fw_QR E o d k none μ' a) (fw_XC E o d k μ') (fw_A E)) (hS : va_S (fw_A E) s.heap H locs)
    (kk : k = 0 → ∀ (H1 : Heap) (locs1 : List Loc), fw_P E o d μ' H1 → va_S (fw_A E) s.heap H1 locs1 → W p l e R s m args below meth c H1 locs1 (cells + mc) (slots + ms) Q (F0 m (pc + 3) ls rest))
    (kx : k ≠ 0 → ∀ (H1 : Heap) (locs1 : List Loc) (q : Nat) (ce : Cell), fw_P E o d μ' H1 → va_S (fw_A E) s.heap H1 locs1 → H1[q]? = some ce → ce.vm = .none → s.vm.findClass (fw_xn k) = some ce.cls → vx_W p l e R s m args below meth c H1 locs1 (cells + mc) (slots + ms) Q (F0 m pc ls rest) q) : W p l e R s m args below meth c H locs cells slots Q (F0 m pc ls st0) := by
  intro T hT X
  rcases hr T hT X with ⟨v', st₀, t, T', L, h0, X', hL, e1, e2, ⟨hk0, hv, hp, hz, hk⟩, st⟩ | ⟨q, st₀, t, T', L, nm, ce, h0, X', hL, e1, e2, ⟨hk0, hnm, hp, hz, hk⟩, hce, hcv, hcl, st⟩
  · cases hv
    rw [h0] at hz hk
    obtain ⟨t2, a1, b1⟩ := kk hk0 T'.heap (locs ++ L) (by rw [e1]; exact hp) ⟨Nat.le_trans hS.1 (by rw [e1]; exact hz), fun q h1 h2 => by rw [e1, hk q (Nat.lt_of_lt_of_le h1 hS.1) h2]; exact hS.2.1 q h1 h2, fun q hq => by
        rcases List.mem_append.mp hq with h | h
        · exact hS.2.2 q h
        · exact hL q h⟩ T' rfl X'
    exact ⟨t2, st t2 a1, b1⟩
  · subst hnm
    rw [h0] at hz hk
    obtain ⟨t2, a1, b1⟩ := kx hk0 T'.heap (locs ++ L) q ce (by rw [e1]; exact hp) ⟨Nat.le_trans hS.1 (by rw [e1]; exact hz), fun q h1 h2 => by rw [e1, hk q (Nat.lt_of_lt_of_le h1 hS.1) h2]; exact hS.2.1 q h1 h2, fun q hq => by
        rcases List.mem_append.mp hq with h | h
        · exact hS.2.2 q h
        · exact hL q h⟩ (by rw [e1]; exact hce) hcv hcl T' rfl X'
    exact ⟨t2, st.trans a1, b1⟩
/-- a method's end: of one that only reads (the answer alone is told), of one that writes -/
theorem fw_er {α : Type} {mk : α → Value} {v r : α} (h : some v = some r) (hP : fw_P E o d μ H) (hS : va_S (fw_A E) s.heap H locs) : ∀ t : State, t.heap = H → s.WarmedH t.vm → fw_Q E o d (some (mk r)) μ args s (.returned (some (mk v))) t := by
  cases h
  exact fun t ht _ => ⟨rfl, by rw [ht]; exact hP, hS.F ht⟩
theorem fw_ew {α : Type} {mk : α → Value} {v r : α} (h : some (μ, v) = some (μ', r)) (hP : fw_P E o d μ H) (hS : va_S (fw_A E) s.heap H locs) : ∀ t : State, t.heap = H → s.WarmedH t.vm → fw_Q E o d (some (mk r)) μ' args s (.returned (some (mk v))) t := by
  cases h
  exact fun t ht _ => ⟨rfl, by rw [ht]; exact hP, hS.F ht⟩
theorem fw_ev {v r : Unit} (h : some (μ, v) = some (μ', r)) (hP : fw_P E o d μ H) (hS : va_S (fw_A E) s.heap H locs) : ∀ t : State, t.heap = H → s.WarmedH t.vm → fw_Q E o d none μ' args s (.returned none) t := by
  cases h
  exact fun t ht _ => ⟨rfl, by rw [ht]; exact hP, hS.F ht⟩
theorem fw_xw {α : Type} {mk : α → Value} {v r : α} {k : Nat} (h : some (μ, v, 0) = some (μ', r, k)) (hP : fw_P E o d μ H) (hS : va_S (fw_A E) s.heap H locs) : ∀ t : State, t.heap = H → s.WarmedH t.vm → fw_QR E o d k (some (mk r)) μ' args s (.returned (some (mk v))) t := by
  cases h
  exact fun t ht _ => ⟨rfl, rfl, by rw [ht]; exact hP, hS.F ht⟩
theorem fw_xv {v r : Unit} {k : Nat} (h : some (μ, v, 0) = some (μ', r, k)) (hP : fw_P E o d μ H) (hS : va_S (fw_A E) s.heap H locs) : ∀ t : State, t.heap = H → s.WarmedH t.vm → fw_QR E o d k none μ' args s (.returned none) t := by
  cases h
  exact fun t ht _ => ⟨rfl, rfl, by rw [ht]; exact hP, hS.F ht⟩
theorem fw_xo {α : Type} {v r : α} {k1 k : Nat} (h : some (μ, v, k1) = some (μ', r, k)) (hk : k1 ≠ 0) (hP : fw_P E o d μ H) (hS : va_S (fw_A E) s.heap H locs) : ∀ t : State, t.heap = H → s.vm.Alike t.vm → fw_XC E o d k μ' (fw_xn k1) s t := by
  cases h
  exact fun t ht _ => ⟨hk, rfl, by rw [ht]; exact hP, hS.F ht⟩
theorem fw_xt {α : Type} {v r : α} {k1 k : Nat} {cls : String} (h : some (μ, v, k1) = some (μ', r, k)) (hk : k1 ≠ 0) (hn : fw_xn k1 = cls) (hP : fw_P E o d μ H) (hS : va_S (fw_A E) s.heap H locs) : ∀ t : State, s.vm.Alike t.vm → H.size ≤ t.heap.size → (∀ q : Nat, q < H.size → t.heap[q]? = H[q]?) → fw_XC E o d k μ' cls s t := by
  cases h
  exact fun t _ h1 h2 => ⟨hk, hn.symm, fw_kept hP h2, Nat.le_trans hS.1 h1, fun q h3 h4 => (h2 q (Nat.lt_of_lt_of_le h3 hS.1)).trans (hS.2.1 q h3 h4)⟩
theorem fw_rowld (hexec : p.tables.exec = Jvm.exec) (hb : c.code = cc) (hK : va_K (fw_D E) vwCl (fw_tys E) s) (hP : fw_P E o d μ H) {i : Int32} (hin : vp_in i 9) (hdg : decode cc pc = .ok (.aaload, 1))
    (kk : W p l e R s m args below meth c H locs cells slots Q (F0 m (pc + 1) ls (.ref (fw_ad E (3 + i.toNatClampNeg) 0) :: rest))) : W p l e R s m args below meth c H locs cells slots Q (F0 m pc ls (.int i :: .ref (fw_ad E 0 12) :: rest)) := va_aldq (D := fw_D E) hexec hb hK (fw_at hP (fw_V0 (f := 12) (by decide) (by decide))) 0 5 rfl rfl hin hdg kk
theorem fw_cmdld (hexec : p.tables.exec = Jvm.exec) (hb : c.code = cc) (hK : va_K (fw_D E) vwCl (fw_tys E) s) (hP : fw_P E o d μ H) {i : Int32} (hin : vp_in i 12) (hdg : decode cc pc = .ok (.aaload, 1))
    (kk : W p l e R s m args below meth c H locs cells slots Q (F0 m (pc + 1) ls (.ref (fw_ad E i.toNatClampNeg 9) :: rest))) : W p l e R s m args below meth c H locs cells slots Q (F0 m pc ls (.int i :: .ref (fw_ad E 0 15) :: rest)) := va_aldq (D := fw_D E) hexec hb hK (fw_at hP (fw_V0 (f := 15) (by decide) (by decide))) 0 4 rfl rfl hin hdg kk
theorem fw_ldcfw0 {T : State} (X : Stand p l e R s m args below meth c T locs cells slots) (hexec : p.tables.exec = Jvm.exec) {own : String} {index : Nat} {v : UInt32} (hown : s.vm.findClass own = some m.cls)
    (hconst : (Cond.constantFloat own index v).before args s = true) {g : JFrame} (hg : g.method = m) (hdg : decode c.code g.pc = .ok (.ldc_w index, 3)) :
    ∀ target, Steps p.tables e below (T.setTop { g with pc := g.pc + 3, stack := .float v :: g.stack }) target → Steps p.tables e below (T.setTop g) target := by
  obtain ⟨k, cf, hk, hcf, hcp⟩ := Cond.constantFloat_spec hown hconst
  obtain ⟨k', hk', he⟩ := X.warmed.alike.2.2 _ _ hk
  intro target hrest
  subst hg
  jvm_step X.here [hexec, hdg, ldc_w.wp_float (s := T) (f := g) X.here.top hk' (by rw [he]; exact hcf) hcp]
  exact hrest
theorem fw_ldcfw (hexec : p.tables.exec = Jvm.exec) (hb : c.code = cc) {own : String} {index : Nat} {v : UInt32} (hown : s.vm.findClass own = some m.cls) (hconst : (Jvm.Cond.constantFloat own index v).before args s = true) (hdg : decode cc pc = .ok (.ldc_w index, 3)) (k : W p l e R s m args below meth c H locs cells slots Q (F0 m (pc + 3) ls (.float v :: rest))) : W p l e R s m args below meth c H locs cells slots Q (F0 m pc ls rest) := by
  intro T hT X
  obtain ⟨t, a, b⟩ := k T hT X
  exact ⟨t, fw_ldcfw0 X hexec hown hconst (g := F0 m pc ls rest) rfl (by rw [hb]; exact hdg) t a, b⟩
theorem fw_inj {i j : Int32} {n : Nat} (hi : fw_in i n = true) (hj : fw_in j n = true) (hn : n < 2 ^ 31) (h : i.toNatClampNeg = j.toNatClampNeg) : i = j := by
  obtain ⟨a, ha, rfl⟩ := vp_in_of (fw_in_e hi) hn
  obtain ⟨b, hb, rfl⟩ := vp_in_of (fw_in_e hj) hn
  rw [nI_clamp (by omega), nI_clamp (by omega)] at h
  rw [h]
theorem fw_kv_pos {a : Int32} (h : fw_in a 6 = true) : fw_kv E a = .ref (fw_x E 0 a.toNatClampNeg) := by
  have h1 := fw_in_e h
  unfold fw_kv
  rw [if_neg (fun z => h1 (Or.inl z))]
theorem fw_kv_or (E : fw_E) (a : Int32) : fw_kv E a = .null ∨ ∃ q, fw_kv E a = .ref q := by
  unfold fw_kv
  split
  · exact Or.inl rfl
  · exact Or.inr ⟨_, rfl⟩
theorem fw_acmp_nef (hexec : p.tables.exec = Jvm.exec) (hb : c.code = cc) (hE : fw_ok E) {a b : Int32} (ha : fw_in a 5 = true) (hb5 : fw_in b 5 = true) {off : Int} {tgt : Nat} (hdg : decode cc pc = .ok (.if_acmp .ne off, 3)) (ht : (pc : Int) + off = (tgt : Int))
    (kt : ¬ a = b → W p l e R s m args below meth c H locs cells slots Q (F0 m tgt ls rest)) (kf : a = b → W p l e R s m args below meth c H locs cells slots Q (F0 m (pc + 3) ls rest)) : W p l e R s m args below meth c H locs cells slots Q (F0 m pc ls (fw_fv E b :: fw_fv E a :: rest)) :=
  lv_acmp_ne (rx := some (fw_x E 1 a.toNatClampNeg)) (ry := some (fw_x E 1 b.toNatClampNeg)) hexec hb hdg ht (fun z => kt (fun w => z (by rw [w]))) (fun z => kf (fw_inj ha hb5 (by decide) (hE.2.2.2 _ _ (fw_in_lt ha) (fw_in_lt hb5) (Option.some.inj z))))
theorem fw_acmp_eqf (hexec : p.tables.exec = Jvm.exec) (hb : c.code = cc) (hE : fw_ok E) {a b : Int32} (ha : fw_in a 5 = true) (hb5 : fw_in b 5 = true) {off : Int} {tgt : Nat} (hdg : decode cc pc = .ok (.if_acmp .eq off, 3)) (ht : (pc : Int) + off = (tgt : Int))
    (kt : a = b → W p l e R s m args below meth c H locs cells slots Q (F0 m tgt ls rest)) (kf : ¬ a = b → W p l e R s m args below meth c H locs cells slots Q (F0 m (pc + 3) ls rest)) : W p l e R s m args below meth c H locs cells slots Q (F0 m pc ls (fw_fv E b :: fw_fv E a :: rest)) :=
  lv_acmp_eq (rx := some (fw_x E 1 a.toNatClampNeg)) (ry := some (fw_x E 1 b.toNatClampNeg)) hexec hb hdg ht (fun z => kt (fw_inj ha hb5 (by decide) (hE.2.2.2 _ _ (fw_in_lt ha) (fw_in_lt hb5) (Option.some.inj z)))) (fun z => kf (fun w => z (by rw [w])))
theorem fw_acmp_nek (hexec : p.tables.exec = Jvm.exec) (hb : c.code = cc) (hE : fw_ok E) {a b : Int32} (ha : fw_in a 6 = true) (hb5 : fw_in b 6 = true) {off : Int} {tgt : Nat} (hdg : decode cc pc = .ok (.if_acmp .ne off, 3)) (ht : (pc : Int) + off = (tgt : Int))
    (kt : ¬ a = b → W p l e R s m args below meth c H locs cells slots Q (F0 m tgt ls rest)) (kf : a = b → W p l e R s m args below meth c H locs cells slots Q (F0 m (pc + 3) ls rest)) : W p l e R s m args below meth c H locs cells slots Q (F0 m pc ls (fw_kv E b :: fw_kv E a :: rest)) := by
  rw [fw_kv_pos ha, fw_kv_pos hb5]
  exact lv_acmp_ne (rx := some (fw_x E 0 a.toNatClampNeg)) (ry := some (fw_x E 0 b.toNatClampNeg)) hexec hb hdg ht (fun z => kt (fun w => z (by rw [w]))) (fun z => kf (fw_inj ha hb5 (by decide) (hE.2.2.1 _ _ (fw_in_lt ha) (fw_in_lt hb5) (Option.some.inj z))))
/-- what an exception's making wants of the tables -/
def fw_thr (ic : Nat) (cls : String) : Prop := (∀ w ∈ (vx_atS RX9 ic cls ["java/lang/RuntimeException", "java/lang/Exception"]).filter goodWord, w ∈ fw_U) ∧ (∀ w ∈ (vx_atS RX9 ic cls ["java/lang/RuntimeException", "java/lang/Exception"]).filter (fun w => !goodWord w), w ∈ Cond.castable cls cls :: fw_nd.map Cond.declares) ∧ (vx_atS RX9 ic cls ["java/lang/RuntimeException", "java/lang/Exception"]).all vx_ot = true ∧ Bundle.fit cls = true ∧ cls ∈ fw_nc
theorem fw_hat {ic : Nat} {cls : String} (ht : fw_thr ic cls) (hU : ∀ w ∈ fw_U, w.before args s = true) (hSt : fw_S E s s.heap) : ∀ w ∈ vx_atS RX9 ic cls ["java/lang/RuntimeException", "java/lang/Exception"], w.before args s = true :=
  vx_hat (fun w hw => hU w (ht.1 w hw)) ht.2.1 (fun w hw => by
    rcases List.mem_cons.mp hw with rfl | hw
    · exact va_Nw.use rfl (hSt.1.2.1 _ ht.2.2.2.2)
    · obtain ⟨q, hq, rfl⟩ := List.mem_map.mp hw
      exact va_Nw.use rfl (hSt.1.2.2.1 q hq))
theorem fw_hgood {ik ic : Nat} {cls : String} (ht : fw_thr ic cls) : ∀ w ∈ Cond.classLink RX9 ik cls :: Cond.initialized cls :: vx_atS RX9 ic cls ["java/lang/RuntimeException", "java/lang/Exception"], vx_ot w = true := by
  intro w hw
  rcases List.mem_cons.mp hw with rfl | hw
  · rfl
  · rcases List.mem_cons.mp hw with rfl | hw
    · rfl
    · exact List.all_eq_true.mp ht.2.2.1 w hw
theorem fw_throw {Qc : Array Value → State → Outcome → State → Prop} {α : Type} {v r : α} {k1 k : Nat} {cls text : String} {ik is ic sa mc ms : Nat} (hexec : p.tables.exec = Jvm.exec) (hb : c.code = cc) (hl : l.stackTraces = false) (hown : s.vm.findClass RX9 = some m.cls) (hU : ∀ w ∈ fw_U, w.before args s = true) (hSt : fw_S E s s.heap) (hP : fw_P E o d μ H) (hS : va_S (fw_A E) s.heap H locs) (hk : Cond.classLink RX9 ik cls ∈ fw_U) (hini : Cond.initialized cls ∈ fw_U) (hstr : (RX9, is, text, 2, sa) ∈ fw_rs) (ht : fw_thr ic cls) (hsize : ls.size = c.maxLocals)
    (d0 : decode cc pc = .ok (.new ik, 3)) (d3 : decode cc (pc + 3) = .ok (.dup, 1)) (d4 : decode cc (pc + 4) = .ok (.ldc is, 2)) (d6 : decode cc (pc + 6) = .ok (.invokespecial ic, 3)) (d9 : decode cc (pc + 9) = .ok (.athrow, 1)) (hex : ∀ x ∈ c.exceptionTable.toList, False)
    (hRframes : 5 < R.frames) (hRlocals : (rest.map fun v => v.category).sum + 82 ≤ R.locals) (hRcells : cells + 1 ≤ R.cells) (hRslots : slots + 6 ≤ R.slots) (hlocks : meth.locks = false) (h : some (μ, v, k1) = some (μ', r, k)) (hk1 : k1 ≠ 0) (hn : fw_xn k1 = cls) (hc : cells + 1 ≤ mc) (hs : slots + 6 ≤ ms) :
    W p l e R s m args below meth c H locs cells slots (vx_MQ below Qc (fw_XC E o d k μ') args s mc ms (fw_A E)) (F0 m pc ls rest) :=
  vx_throwS (names := ["java/lang/RuntimeException", "java/lang/Exception"]) hexec hb hl hown ht.2.2.2.1 (by decide +kernel) (hU _ hk) (hU _ hini) (hSt.2.2.2.1 _ hstr) (fw_hat ht hU hSt) (fw_hgood ht) (hSt.2.2.1 _ (List.mem_of_getElem? (i := 0) rfl)) (hSt.2.2.1 _ (List.mem_of_getElem? (i := 1) rfl)) hS hsize d0 d3 d4 d6 d9 (fun z hz => (hex z hz).elim) hRframes hRlocals hRcells hRslots hlocks (fw_xt h hk1 hn hP hS) hS.2.2 hc hs
theorem fw_throwW {Qc : Array Value → State → Outcome → State → Prop} {α : Type} {v r : α} {k1 k : Nat} {cls text : String} {ik is ic sa mc ms : Nat} (hexec : p.tables.exec = Jvm.exec) (hb : c.code = cc) (hl : l.stackTraces = false) (hown : s.vm.findClass RX9 = some m.cls) (hU : ∀ w ∈ fw_U, w.before args s = true) (hSt : fw_S E s s.heap) (hP : fw_P E o d μ H) (hS : va_S (fw_A E) s.heap H locs) (hk : Cond.classLink RX9 ik cls ∈ fw_U) (hini : Cond.initialized cls ∈ fw_U) (hstr : (RX9, is, text, 2, sa) ∈ fw_rs) (ht : fw_thr ic cls) (hsize : ls.size = c.maxLocals)
    (d0 : decode cc pc = .ok (.new ik, 3)) (d3 : decode cc (pc + 3) = .ok (.dup, 1)) (d4 : decode cc (pc + 4) = .ok (.ldc_w is, 3)) (d7 : decode cc (pc + 7) = .ok (.invokespecial ic, 3)) (d10 : decode cc (pc + 10) = .ok (.athrow, 1)) (hex : ∀ x ∈ c.exceptionTable.toList, False)
    (hRframes : 5 < R.frames) (hRlocals : (rest.map fun v => v.category).sum + 82 ≤ R.locals) (hRcells : cells + 1 ≤ R.cells) (hRslots : slots + 6 ≤ R.slots) (hlocks : meth.locks = false) (h : some (μ, v, k1) = some (μ', r, k)) (hk1 : k1 ≠ 0) (hn : fw_xn k1 = cls) (hc : cells + 1 ≤ mc) (hs : slots + 6 ≤ ms) :
    W p l e R s m args below meth c H locs cells slots (vx_MQ below Qc (fw_XC E o d k μ') args s mc ms (fw_A E)) (F0 m pc ls rest) :=
  vx_throwSW (names := ["java/lang/RuntimeException", "java/lang/Exception"]) hexec hb hl hown ht.2.2.2.1 (by decide +kernel) (hU _ hk) (hU _ hini) (hSt.2.2.2.1 _ hstr) (fw_hat ht hU hSt) (fw_hgood ht) (hSt.2.2.1 _ (List.mem_of_getElem? (i := 0) rfl)) (hSt.2.2.1 _ (List.mem_of_getElem? (i := 1) rfl)) hS hsize d0 d3 d4 d7 d10 (fun z hz => (hex z hz).elim) hRframes hRlocals hRcells hRslots hlocks (fw_xt h hk1 hn hP hS) hS.2.2 hc hs
end FWR
theorem fw_zf_NONE {E : fw_E} {U : State} {H : Heap} (h : fw_S E U H) : va_Z "LaundryService$Fault" "NONE" "LLaundryService$Fault;" (fw_fv E (0 : Int32)) (fw_A E) U H := h.2.1 _ (List.mem_of_getElem? (i := 0) rfl)
theorem fw_zf_INDEX {E : fw_E} {U : State} {H : Heap} (h : fw_S E U H) : va_Z "LaundryService$Fault" "INDEX" "LLaundryService$Fault;" (fw_fv E (1 : Int32)) (fw_A E) U H := h.2.1 _ (List.mem_of_getElem? (i := 1) rfl)
theorem fw_zf_ARGUMENT {E : fw_E} {U : State} {H : Heap} (h : fw_S E U H) : va_Z "LaundryService$Fault" "ARGUMENT" "LLaundryService$Fault;" (fw_fv E (2 : Int32)) (fw_A E) U H := h.2.1 _ (List.mem_of_getElem? (i := 2) rfl)
theorem fw_zf_PLACE {E : fw_E} {U : State} {H : Heap} (h : fw_S E U H) : va_Z "LaundryService$Fault" "PLACE" "LLaundryService$Fault;" (fw_fv E (3 : Int32)) (fw_A E) U H := h.2.1 _ (List.mem_of_getElem? (i := 3) rfl)
theorem fw_zf_STATE {E : fw_E} {U : State} {H : Heap} (h : fw_S E U H) : va_Z "LaundryService$Fault" "STATE" "LLaundryService$Fault;" (fw_fv E (4 : Int32)) (fw_A E) U H := h.2.1 _ (List.mem_of_getElem? (i := 4) rfl)
theorem fw_zk_SOCK {E : fw_E} {U : State} {H : Heap} (h : fw_S E U H) : va_Z "LaundryService$Keyword" "SOCK" "LLaundryService$Keyword;" (fw_kv E (0 : Int32)) (fw_A E) U H := by
  rw [fw_kv_pos (by decide)]
  exact h.2.1 _ (List.mem_of_getElem? (i := 5) rfl)
theorem fw_zk_SHIRT {E : fw_E} {U : State} {H : Heap} (h : fw_S E U H) : va_Z "LaundryService$Keyword" "SHIRT" "LLaundryService$Keyword;" (fw_kv E (1 : Int32)) (fw_A E) U H := by
  rw [fw_kv_pos (by decide)]
  exact h.2.1 _ (List.mem_of_getElem? (i := 6) rfl)
theorem fw_zk_LOAD {E : fw_E} {U : State} {H : Heap} (h : fw_S E U H) : va_Z "LaundryService$Keyword" "LOAD" "LLaundryService$Keyword;" (fw_kv E (2 : Int32)) (fw_A E) U H := by
  rw [fw_kv_pos (by decide)]
  exact h.2.1 _ (List.mem_of_getElem? (i := 7) rfl)
theorem fw_zk_OUT {E : fw_E} {U : State} {H : Heap} (h : fw_S E U H) : va_Z "LaundryService$Keyword" "OUT" "LLaundryService$Keyword;" (fw_kv E (3 : Int32)) (fw_A E) U H := by
  rw [fw_kv_pos (by decide)]
  exact h.2.1 _ (List.mem_of_getElem? (i := 8) rfl)
theorem fw_zk_HEAT {E : fw_E} {U : State} {H : Heap} (h : fw_S E U H) : va_Z "LaundryService$Keyword" "HEAT" "LLaundryService$Keyword;" (fw_kv E (4 : Int32)) (fw_A E) U H := by
  rw [fw_kv_pos (by decide)]
  exact h.2.1 _ (List.mem_of_getElem? (i := 9) rfl)
theorem fw_zk_RUN {E : fw_E} {U : State} {H : Heap} (h : fw_S E U H) : va_Z "LaundryService$Keyword" "RUN" "LLaundryService$Keyword;" (fw_kv E (5 : Int32)) (fw_A E) U H := by
  rw [fw_kv_pos (by decide)]
  exact h.2.1 _ (List.mem_of_getElem? (i := 10) rfl)
