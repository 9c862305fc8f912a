/-! the law's helpers, laid by wip/whole/lay3.py -/
theorem fw_gSW {own : String} {idx : Nat} {y : MethodName} {cc : ByteArray} {maxL : Nat} {ret : Option FieldType} {hh : List (Nat × Nat × Nat × Nat)} (h1 : Cond.methodLink own idx y ∈ fw_U) (h2 : Cond.static y ∈ fw_U) (h4 : Cond.initialized y.cls ∈ fw_U) (h5 : Cond.codeWith y cc maxL ret hh ∈ fw_U) : GoodIn fw_U (va_wsS own idx y (Cond.codeWith y cc maxL ret hh :: fw_U)) := fw_gU (fun w hw => by
  rcases List.mem_append.mp hw with h | h
  · rcases List.mem_cons.mp h with rfl | h
    · exact h1
    rcases List.mem_cons.mp h with rfl | h
    · exact h2
    rcases List.mem_cons.mp h with rfl | h
    · exact h4
    · exact absurd h List.not_mem_nil
  · rcases List.mem_cons.mp h with rfl | h
    · exact h5
    · exact h)
theorem fw_arrV {cI : ClassId} {N : Nat} {f g : Nat → Value} (h : ∀ j, j < N → f j = g j) : arrV cI N f = arrV cI N g := by
  unfold arrV
  rw [show (fun j : Fin N => f j.val) = (fun j : Fin N => g j.val) from funext fun j => h j.val j.isLt]
def fw_nn : List (String × String) := [("java/lang/IllegalStateException", "java/lang/IndexOutOfBoundsException"), ("java/lang/IllegalStateException", "java/lang/IllegalArgumentException"), ("java/lang/IllegalArgumentException", "java/lang/IndexOutOfBoundsException"), ("java/lang/IllegalStateException", "java/lang/UnsupportedOperationException"), ("java/lang/UnsupportedOperationException", "java/lang/IndexOutOfBoundsException"), ("java/util/NoSuchElementException", "java/lang/IndexOutOfBoundsException"), ("java/util/NoSuchElementException", "java/lang/UnsupportedOperationException"), ("java/lang/UnsupportedOperationException", "java/lang/IllegalArgumentException")]
def fw_S2 (U : State) : Prop := ∀ q ∈ fw_nn, va_Nc q.1 q.2 U
theorem fw_S2_go {u U : State} (h : fw_S2 u) (hW : u.WarmedH U.vm) : fw_S2 U := fun q hq => (h q hq).moved hW.alike
theorem fw_blind2 {E : fw_E} {o : Int64} {d : UInt64} {μ : fw_M} {av : List Value} : FrameBlind (va_Pc av (fun U => fw_Pre E o d μ U ∧ fw_S2 U)) := fun a U g mk q => ⟨q.1, ⟨va_K.moved (u := U) (U := U.calling g mk a) (Vm.Alike.refl U.vm) q.2.1.1, q.2.1.2.1, fw_S_vm q.2.1.2.2 rfl⟩, fun z hz => (q.2.2 z hz).moved (Vm.Alike.refl U.vm)⟩
def fw_b4 {β : Type} (x : Option (fw_M × Int64 × UInt64 × Int32)) (f : fw_M → Int64 → UInt64 → Int32 → Option β) : Option β := match x with
  | none => none
  | some (a, b, k, r) => f a b k r
theorem fw_b4_e {β : Type} {x : Option (fw_M × Int64 × UInt64 × Int32)} {f : fw_M → Int64 → UInt64 → Int32 → Option β} {r : β} (h : fw_b4 x f = some r) : ∃ a b k q, x = some (a, b, k, q) ∧ f a b k q = some r := by
  cases x with
  | none => cases h
  | some a => exact ⟨a.1, a.2.1, a.2.2.1, a.2.2.2, rfl, h⟩
theorem fw_o_i {E : fw_E} {o o' : Int64} {d : UInt64} {j : Nat} {v : Nat → Int32} : ∀ f : Nat, f ≠ 27 → fw_c E o d j f v = fw_c E o' d j f v
  | 0, _ | 1, _ | 2, _ | 3, _ | 4, _ | 5, _ | 6, _ | 7, _ | 8, _ | 9, _ | 10, _ | 11, _ | 12, _ | 13, _ | 14, _ | 15, _ | 16, _ | 17, _ | 18, _ | 19, _ | 20, _ | 21, _ | 22, _ | 23, _ | 24, _ | 25, _ | 26, _ => rfl
  | 27, h => absurd rfl h
  | n + 28, _ => rfl
theorem fw_d_i {E : fw_E} {o : Int64} {d d' : UInt64} {j : Nat} {v : Nat → Int32} : ∀ f : Nat, f < 28 → fw_c E o d j f v = fw_c E o d' j f v
  | 0, _ | 1, _ | 2, _ | 3, _ | 4, _ | 5, _ | 6, _ | 7, _ | 8, _ | 9, _ | 10, _ | 11, _ | 12, _ | 13, _ | 14, _ | 15, _ | 16, _ | 17, _ | 18, _ | 19, _ | 20, _ | 21, _ | 22, _ | 23, _ | 24, _ | 25, _ | 26, _ | 27, _ => rfl
  | n + 28, h => absurd h (by omega)
section LWR
variable {p : Program} {l : Launch} {e : Env} {R : Room} {s : State} {m : MethodId} {args : Array Value} {below : List Frame} {meth : Method} {c : Code} {H : Heap} {locs : List Loc} {cells slots : Nat} {Q : State → Prop}
variable {cc : ByteArray} {pc : Nat} {ls : Array Slot} {rest st0 : List Value} {E : fw_E} {o o' : Int64} {d d' : UInt64} {μ μ' : fw_M}
theorem fw_last (hexec : p.tables.exec = Jvm.exec) (hb : c.code = cc) (hK : va_K (fw_D E) vwCl (fw_tys E) s) (hP : fw_P E o d μ H) (hE : fw_ok E) (hS : va_S (fw_A E) s.heap H locs) {x : Int64} (hdg : decode cc pc = .ok (.lastore, 1))
    (kk : ∀ (H1 : Heap) (locs1 : List Loc), fw_P E x d μ H1 → va_S (fw_A E) s.heap H1 locs1 → W p l e R s m args below meth c H1 locs1 cells slots Q (F0 m (pc + 1) ls rest)) : W p l e R s m args below meth c H locs cells slots Q (F0 m pc ls (.long x :: .int (0 : Int32) :: .ref (fw_ad E 0 27) :: rest)) := by
  have hV : fw_V 0 27 := fw_V0 (f := 27) (by decide) (by decide)
  have hat : va_at (fw_D E) vwCl (fw_ad E 0 27, .inl (fw_cy E 6, 1, .inr (.inl (fun _ => o)))) H := hP 0 27 hV
  refine W.last hexec hb hat ((hK.2 6 _ rfl).1 1 (fun _ => .long o)) (fun q => by cases q) (by show ¬ ((0 : Int32) < 0 ∨ (arrV _ _ _).slots.size ≤ _); rw [arrV_size]; exact fw_in_e (n := 1) (by decide)) rfl rfl hdg fun H1 e z oq => ?_
  refine kk H1 _ (fun j f hf => ?_) (hS.put z oq (hE.2.1 0 27 hV))
  by_cases hq : f = 27
  · subst hq
    have hj : j = 0 := by
      rcases hf with q | q
      · omega
      · exact q.2.2
    subst hj
    show H1[_]? = some (vp_cell _ _)
    rw [e]
    rw [vp_cell_l, vp_cell_l, arrV_store]
    exact congrArg some (fw_arrV (fun j hj => by
      have hj0 : j = 0 := by omega
      subst hj0
      rfl))
  · rw [fw_o_i (o' := o) f hq]
    exact (hP j f hf).kept (oq _ (fun z => hq (hE.1 _ _ _ _ hf hV z).2))
theorem fw_dast (hexec : p.tables.exec = Jvm.exec) (hb : c.code = cc) (hK : va_K (fw_D E) vwCl (fw_tys E) s) (hP : fw_P E o d μ H) (hE : fw_ok E) (hS : va_S (fw_A E) s.heap H locs) {x : UInt64} (hdg : decode cc pc = .ok (.dastore, 1))
    (kk : ∀ (H1 : Heap) (locs1 : List Loc), fw_P E o x μ H1 → va_S (fw_A E) s.heap H1 locs1 → W p l e R s m args below meth c H1 locs1 cells slots Q (F0 m (pc + 1) ls rest)) : W p l e R s m args below meth c H locs cells slots Q (F0 m pc ls (.double x :: .int (0 : Int32) :: .ref (fw_ad E 0 28) :: rest)) := by
  have hV : fw_V 0 28 := fw_V0 (f := 28) (by decide) (by decide)
  have hat : va_at (fw_D E) vwCl (fw_ad E 0 28, .inl (fw_cy E 7, 1, .inr (.inr (.inr (.inl (fun _ => d)))))) H := hP 0 28 hV
  refine W.dast hexec hb hat ((hK.2 7 _ rfl).1 1 (fun _ => .double d)) (fun q => by cases q) (by show ¬ ((0 : Int32) < 0 ∨ (arrV _ _ _).slots.size ≤ _); rw [arrV_size]; exact fw_in_e (n := 1) (by decide)) rfl rfl hdg fun H1 e z oq => ?_
  refine kk H1 _ (fun j f hf => ?_) (hS.put z oq (hE.2.1 0 28 hV))
  by_cases hq : f = 28
  · subst hq
    have hj : j = 0 := by
      rcases hf with q | q
      · omega
      · exact q.2.2
    subst hj
    show H1[_]? = some (vp_cell _ _)
    rw [e]
    rw [vp_cell_d, vp_cell_d, arrV_store]
    exact congrArg some (fw_arrV (fun j hj => by
      have hj0 : j = 0 := by omega
      subst hj0
      rfl))
  · have hf2 : f < 28 := by
      rcases hf with q | q
      · omega
      · omega
    rw [fw_d_i (d' := d) f hf2]
    exact (hP j f hf).kept (oq _ (fun z => hq (hE.1 _ _ _ _ hf hV z).2))
theorem fw_el {v r : Int32} (h : some (μ, o, d, v) = some (μ', o', d', r)) (hP : fw_P E o d μ H) (hS : va_S (fw_A E) s.heap H locs) : ∀ t : State, t.heap = H → s.WarmedH t.vm → fw_Q E o' d' (some (.int r)) μ' args s (.returned (some (.int v))) t := by
  cases h
  exact fun t ht _ => ⟨rfl, by rw [ht]; exact hP, hS.F ht⟩
theorem fw_retL {a : Array Value} {v : Value} {mc ms : Nat} (hr : va_Run p l e R s m args below meth c H locs cells slots mc ms (F0 m pc ls st0) rest (fw_Q E o' d' (some v) μ' a) (fw_A E)) (hS : va_S (fw_A E) s.heap H locs)
    (kk : ∀ (H1 : Heap) (locs1 : List Loc), fw_P E o' d' μ' H1 → va_S (fw_A E) s.heap H1 locs1 → W p l e R s m args below meth c H1 locs1 (cells + mc) (slots + ms) Q (F0 m (pc + 3) ls (v :: rest))) : W p l e R s m args below meth c H locs cells slots Q (F0 m pc ls st0) := by
  intro T hT X
  obtain ⟨v', st₀, t, T', L, h0, X', hL, e1, e2, ⟨hv, hp, hz, hk⟩, st⟩ := hr T hT X
  cases hv
  rw [h0] at hz hk
  obtain ⟨t2, a1, b1⟩ := kk T'.heap (locs ++ L) (by rw [e1]; exact hp) ⟨Nat.le_trans hS.1 (by rw [e1]; exact hz), fun q h1 h2 => by rw [e1, hk q (Nat.lt_of_lt_of_le h1 hS.1) h2]; exact hS.2.1 q h1 h2, fun q hq => by
      rcases List.mem_append.mp hq with h | h
      · exact hS.2.2 q h
      · exact hL q h⟩ T' rfl X'
  exact ⟨t2, st t2 a1, b1⟩
end LWR
/-- what holds at the law's loop, but for the world -/
def lc_At (p : Program) (l : Launch) (s : State) (m : MethodId) (meth : Method) (c : Code) (b L : Nat) (xs : Nat → Int32) (E : fw_E) : Prop :=
  p.tables.exec = Jvm.exec ∧ c.code = cL_law ∧ c.maxLocals = 9 ∧ s.vm.findClass RL = some m.cls ∧ (∀ w ∈ fw_U, w.before #[Value.ref b] s = true) ∧ va_K (fw_D E) vwCl (fw_tys E) s ∧ fw_S E s s.heap ∧ fw_S2 s ∧ fw_ok E ∧ l.stackTraces = false ∧ va_X b L xs s s.heap ∧ b < s.heap.size ∧ ¬ fw_A E b ∧ fw_z E = s.heap.size
theorem m_423 : (Cond.code yX9_bring cX9_bring 5 (some .int)) ∈ fw_U := fw_inU (i := 423) (by decide +kernel) (by decide +kernel)
theorem m_420 : (Cond.methodLink RL 7 yX9_bring) ∈ fw_U := fw_inU (i := 420) (by decide +kernel) (by decide +kernel)
theorem m_421 : (Cond.instanceMethod yX9_bring) ∈ fw_U := fw_inU (i := 421) (by decide +kernel) (by decide +kernel)
theorem m_422 : (Cond.selects RX9 yX9_bring yX9_bring) ∈ fw_U := fw_inU (i := 422) (by decide +kernel) (by decide +kernel)
theorem m_338 : (Cond.classLink RL 13 "java/lang/IndexOutOfBoundsException") ∈ fw_U := fw_inU (i := 338) (by decide +kernel) (by decide +kernel)
theorem m_418 : (Cond.classLink RL 15 "java/lang/IllegalArgumentException") ∈ fw_U := fw_inU (i := 418) (by decide +kernel) (by decide +kernel)
theorem m_419 : (Cond.classLink RL 17 "java/lang/IllegalStateException") ∈ fw_U := fw_inU (i := 419) (by decide +kernel) (by decide +kernel)
theorem m_337 : (Cond.codeWith yL_bring cL_bring 7 (some .int) [(0, 14, 17, 13), (0, 14, 21, 15), (0, 14, 25, 17)]) ∈ fw_U := fw_inU (i := 337) (by decide +kernel) (by decide +kernel)
theorem m_539 : (Cond.code yX9_load cX9_load 3 (some .int)) ∈ fw_U := fw_inU (i := 539) (by decide +kernel) (by decide +kernel)
theorem m_536 : (Cond.methodLink RL 19 yX9_load) ∈ fw_U := fw_inU (i := 536) (by decide +kernel) (by decide +kernel)
theorem m_537 : (Cond.instanceMethod yX9_load) ∈ fw_U := fw_inU (i := 537) (by decide +kernel) (by decide +kernel)
theorem m_538 : (Cond.selects RX9 yX9_load yX9_load) ∈ fw_U := fw_inU (i := 538) (by decide +kernel) (by decide +kernel)
theorem m_535 : (Cond.classLink RL 23 "java/lang/UnsupportedOperationException") ∈ fw_U := fw_inU (i := 535) (by decide +kernel) (by decide +kernel)
theorem m_534 : (Cond.codeWith yL_load cL_load 5 (some .int) [(0, 10, 13, 13), (0, 10, 17, 23), (0, 10, 21, 17)]) ∈ fw_U := fw_inU (i := 534) (by decide +kernel) (by decide +kernel)
theorem m_563 : (Cond.code yX9_takeOut cX9_takeOut 2 (some .int)) ∈ fw_U := fw_inU (i := 563) (by decide +kernel) (by decide +kernel)
theorem m_560 : (Cond.methodLink RL 25 yX9_takeOut) ∈ fw_U := fw_inU (i := 560) (by decide +kernel) (by decide +kernel)
theorem m_561 : (Cond.instanceMethod yX9_takeOut) ∈ fw_U := fw_inU (i := 561) (by decide +kernel) (by decide +kernel)
theorem m_562 : (Cond.selects RX9 yX9_takeOut yX9_takeOut) ∈ fw_U := fw_inU (i := 562) (by decide +kernel) (by decide +kernel)
theorem m_559 : (Cond.codeWith yL_takeOut cL_takeOut 4 (some .int) [(0, 9, 12, 13), (0, 9, 15, 23)]) ∈ fw_U := fw_inU (i := 559) (by decide +kernel) (by decide +kernel)
theorem m_578 : (Cond.code yX9_setTemperature cX9_setTemperature 4 (some .float)) ∈ fw_U := fw_inU (i := 578) (by decide +kernel) (by decide +kernel)
theorem m_575 : (Cond.methodLink RL 29 yX9_setTemperature) ∈ fw_U := fw_inU (i := 575) (by decide +kernel) (by decide +kernel)
theorem m_576 : (Cond.instanceMethod yX9_setTemperature) ∈ fw_U := fw_inU (i := 576) (by decide +kernel) (by decide +kernel)
theorem m_577 : (Cond.selects RX9 yX9_setTemperature yX9_setTemperature) ∈ fw_U := fw_inU (i := 577) (by decide +kernel) (by decide +kernel)
theorem m_574 : (Cond.codeWith yL_setTemperature cL_setTemperature 5 (some .int) [(0, 10, 13, 13), (0, 10, 17, 15)]) ∈ fw_U := fw_inU (i := 574) (by decide +kernel) (by decide +kernel)
theorem m_593 : (Cond.code yX9_run cX9_run 2 (some .int)) ∈ fw_U := fw_inU (i := 593) (by decide +kernel) (by decide +kernel)
theorem m_590 : (Cond.methodLink RL 33 yX9_run) ∈ fw_U := fw_inU (i := 590) (by decide +kernel) (by decide +kernel)
theorem m_591 : (Cond.instanceMethod yX9_run) ∈ fw_U := fw_inU (i := 591) (by decide +kernel) (by decide +kernel)
theorem m_592 : (Cond.selects RX9 yX9_run yX9_run) ∈ fw_U := fw_inU (i := 592) (by decide +kernel) (by decide +kernel)
theorem m_589 : (Cond.codeWith yL_run cL_run 4 (some .int) [(0, 9, 12, 13), (0, 9, 15, 17)]) ∈ fw_U := fw_inU (i := 589) (by decide +kernel) (by decide +kernel)
theorem m_624 : (Cond.code yX9_client cX9_client 2 (some .int)) ∈ fw_U := fw_inU (i := 624) (by decide +kernel) (by decide +kernel)
theorem m_621 : (Cond.methodLink RL 36 yX9_client) ∈ fw_U := fw_inU (i := 621) (by decide +kernel) (by decide +kernel)
theorem m_622 : (Cond.instanceMethod yX9_client) ∈ fw_U := fw_inU (i := 622) (by decide +kernel) (by decide +kernel)
theorem m_623 : (Cond.selects RX9 yX9_client yX9_client) ∈ fw_U := fw_inU (i := 623) (by decide +kernel) (by decide +kernel)
theorem m_620 : (Cond.codeWith yL_client cL_client 4 (some .int) [(0, 9, 12, 13)]) ∈ fw_U := fw_inU (i := 620) (by decide +kernel) (by decide +kernel)
theorem m_637 : (Cond.code yX9_isSock cX9_isSock 2 (some .boolean)) ∈ fw_U := fw_inU (i := 637) (by decide +kernel) (by decide +kernel)
theorem m_634 : (Cond.methodLink RL 39 yX9_isSock) ∈ fw_U := fw_inU (i := 634) (by decide +kernel) (by decide +kernel)
theorem m_635 : (Cond.instanceMethod yX9_isSock) ∈ fw_U := fw_inU (i := 635) (by decide +kernel) (by decide +kernel)
theorem m_636 : (Cond.selects RX9 yX9_isSock yX9_isSock) ∈ fw_U := fw_inU (i := 636) (by decide +kernel) (by decide +kernel)
theorem m_633 : (Cond.codeWith yL_isSock cL_isSock 4 (some .int) [(0, 16, 19, 13)]) ∈ fw_U := fw_inU (i := 633) (by decide +kernel) (by decide +kernel)
theorem m_644 : (Cond.code yX9_colour cX9_colour 2 (some .int)) ∈ fw_U := fw_inU (i := 644) (by decide +kernel) (by decide +kernel)
theorem m_641 : (Cond.methodLink RL 43 yX9_colour) ∈ fw_U := fw_inU (i := 641) (by decide +kernel) (by decide +kernel)
theorem m_642 : (Cond.instanceMethod yX9_colour) ∈ fw_U := fw_inU (i := 642) (by decide +kernel) (by decide +kernel)
theorem m_643 : (Cond.selects RX9 yX9_colour yX9_colour) ∈ fw_U := fw_inU (i := 643) (by decide +kernel) (by decide +kernel)
theorem m_640 : (Cond.codeWith yL_colour cL_colour 4 (some .int) [(0, 9, 12, 13)]) ∈ fw_U := fw_inU (i := 640) (by decide +kernel) (by decide +kernel)
theorem m_651 : (Cond.code yX9_stains cX9_stains 2 (some .int)) ∈ fw_U := fw_inU (i := 651) (by decide +kernel) (by decide +kernel)
theorem m_648 : (Cond.methodLink RL 46 yX9_stains) ∈ fw_U := fw_inU (i := 648) (by decide +kernel) (by decide +kernel)
theorem m_649 : (Cond.instanceMethod yX9_stains) ∈ fw_U := fw_inU (i := 649) (by decide +kernel) (by decide +kernel)
theorem m_650 : (Cond.selects RX9 yX9_stains yX9_stains) ∈ fw_U := fw_inU (i := 650) (by decide +kernel) (by decide +kernel)
theorem m_647 : (Cond.codeWith yL_stains cL_stains 4 (some .int) [(0, 9, 12, 13)]) ∈ fw_U := fw_inU (i := 647) (by decide +kernel) (by decide +kernel)
theorem m_658 : (Cond.code yX9_stainCount cX9_stainCount 2 (some .int)) ∈ fw_U := fw_inU (i := 658) (by decide +kernel) (by decide +kernel)
theorem m_655 : (Cond.methodLink RL 49 yX9_stainCount) ∈ fw_U := fw_inU (i := 655) (by decide +kernel) (by decide +kernel)
theorem m_656 : (Cond.instanceMethod yX9_stainCount) ∈ fw_U := fw_inU (i := 656) (by decide +kernel) (by decide +kernel)
theorem m_657 : (Cond.selects RX9 yX9_stainCount yX9_stainCount) ∈ fw_U := fw_inU (i := 657) (by decide +kernel) (by decide +kernel)
theorem m_654 : (Cond.codeWith yL_stainCount cL_stainCount 4 (some .int) [(0, 9, 12, 13)]) ∈ fw_U := fw_inU (i := 654) (by decide +kernel) (by decide +kernel)
theorem m_666 : (Cond.code yX9_place cX9_place 2 (some .char)) ∈ fw_U := fw_inU (i := 666) (by decide +kernel) (by decide +kernel)
theorem m_663 : (Cond.methodLink RL 52 yX9_place) ∈ fw_U := fw_inU (i := 663) (by decide +kernel) (by decide +kernel)
theorem m_664 : (Cond.instanceMethod yX9_place) ∈ fw_U := fw_inU (i := 664) (by decide +kernel) (by decide +kernel)
theorem m_665 : (Cond.selects RX9 yX9_place yX9_place) ∈ fw_U := fw_inU (i := 665) (by decide +kernel) (by decide +kernel)
theorem m_662 : (Cond.codeWith yL_place cL_place 4 (some .int) [(0, 9, 12, 13)]) ∈ fw_U := fw_inU (i := 662) (by decide +kernel) (by decide +kernel)
theorem m_676 : (Cond.code yX9_washes cX9_washes 2 (some .int)) ∈ fw_U := fw_inU (i := 676) (by decide +kernel) (by decide +kernel)
theorem m_673 : (Cond.methodLink RL 56 yX9_washes) ∈ fw_U := fw_inU (i := 673) (by decide +kernel) (by decide +kernel)
theorem m_674 : (Cond.instanceMethod yX9_washes) ∈ fw_U := fw_inU (i := 674) (by decide +kernel) (by decide +kernel)
theorem m_675 : (Cond.selects RX9 yX9_washes yX9_washes) ∈ fw_U := fw_inU (i := 675) (by decide +kernel) (by decide +kernel)
theorem m_672 : (Cond.codeWith yL_washes cL_washes 4 (some .int) [(0, 9, 12, 13)]) ∈ fw_U := fw_inU (i := 672) (by decide +kernel) (by decide +kernel)
theorem m_684 : (Cond.code yX9_partner cX9_partner 3 (some .int)) ∈ fw_U := fw_inU (i := 684) (by decide +kernel) (by decide +kernel)
theorem m_681 : (Cond.methodLink RL 59 yX9_partner) ∈ fw_U := fw_inU (i := 681) (by decide +kernel) (by decide +kernel)
theorem m_682 : (Cond.instanceMethod yX9_partner) ∈ fw_U := fw_inU (i := 682) (by decide +kernel) (by decide +kernel)
theorem m_683 : (Cond.selects RX9 yX9_partner yX9_partner) ∈ fw_U := fw_inU (i := 683) (by decide +kernel) (by decide +kernel)
theorem m_680 : (Cond.classLink RL 62 "java/util/NoSuchElementException") ∈ fw_U := fw_inU (i := 680) (by decide +kernel) (by decide +kernel)
theorem m_679 : (Cond.codeWith yL_partner cL_partner 4 (some .int) [(0, 9, 12, 13), (0, 9, 15, 23), (0, 9, 18, 62)]) ∈ fw_U := fw_inU (i := 679) (by decide +kernel) (by decide +kernel)
theorem m_709 : (Cond.code yX9_pairCount cX9_pairCount 2 (some .int)) ∈ fw_U := fw_inU (i := 709) (by decide +kernel) (by decide +kernel)
theorem m_706 : (Cond.methodLink RL 64 yX9_pairCount) ∈ fw_U := fw_inU (i := 706) (by decide +kernel) (by decide +kernel)
theorem m_707 : (Cond.instanceMethod yX9_pairCount) ∈ fw_U := fw_inU (i := 707) (by decide +kernel) (by decide +kernel)
theorem m_708 : (Cond.selects RX9 yX9_pairCount yX9_pairCount) ∈ fw_U := fw_inU (i := 708) (by decide +kernel) (by decide +kernel)
theorem m_705 : (Cond.codeWith yL_pairCount cL_pairCount 4 (some .int) [(0, 9, 12, 13)]) ∈ fw_U := fw_inU (i := 705) (by decide +kernel) (by decide +kernel)
theorem m_721 : (Cond.code yX9_pairCountByParity cX9_pairCountByParity 2 (some .int)) ∈ fw_U := fw_inU (i := 721) (by decide +kernel) (by decide +kernel)
theorem m_718 : (Cond.methodLink RL 67 yX9_pairCountByParity) ∈ fw_U := fw_inU (i := 718) (by decide +kernel) (by decide +kernel)
theorem m_719 : (Cond.instanceMethod yX9_pairCountByParity) ∈ fw_U := fw_inU (i := 719) (by decide +kernel) (by decide +kernel)
theorem m_720 : (Cond.selects RX9 yX9_pairCountByParity yX9_pairCountByParity) ∈ fw_U := fw_inU (i := 720) (by decide +kernel) (by decide +kernel)
theorem m_717 : (Cond.codeWith yL_pairCountByParity cL_pairCountByParity 4 (some .int) [(0, 9, 12, 13)]) ∈ fw_U := fw_inU (i := 717) (by decide +kernel) (by decide +kernel)
theorem m_728 : (Cond.code yX9_inBag cX9_inBag 2 (some .int)) ∈ fw_U := fw_inU (i := 728) (by decide +kernel) (by decide +kernel)
theorem m_725 : (Cond.methodLink RL 70 yX9_inBag) ∈ fw_U := fw_inU (i := 725) (by decide +kernel) (by decide +kernel)
theorem m_726 : (Cond.instanceMethod yX9_inBag) ∈ fw_U := fw_inU (i := 726) (by decide +kernel) (by decide +kernel)
theorem m_727 : (Cond.selects RX9 yX9_inBag yX9_inBag) ∈ fw_U := fw_inU (i := 727) (by decide +kernel) (by decide +kernel)
theorem m_724 : (Cond.codeWith yL_inBag cL_inBag 4 (some .int) [(0, 9, 12, 13)]) ∈ fw_U := fw_inU (i := 724) (by decide +kernel) (by decide +kernel)
theorem m_740 : (Cond.code yX9_inMachine cX9_inMachine 2 (some .int)) ∈ fw_U := fw_inU (i := 740) (by decide +kernel) (by decide +kernel)
theorem m_737 : (Cond.methodLink RL 73 yX9_inMachine) ∈ fw_U := fw_inU (i := 737) (by decide +kernel) (by decide +kernel)
theorem m_738 : (Cond.instanceMethod yX9_inMachine) ∈ fw_U := fw_inU (i := 738) (by decide +kernel) (by decide +kernel)
theorem m_739 : (Cond.selects RX9 yX9_inMachine yX9_inMachine) ∈ fw_U := fw_inU (i := 739) (by decide +kernel) (by decide +kernel)
theorem m_736 : (Cond.codeWith yL_inMachine cL_inMachine 4 (some .int) [(0, 9, 12, 13)]) ∈ fw_U := fw_inU (i := 736) (by decide +kernel) (by decide +kernel)
theorem m_752 : (Cond.code yX9_temperature cX9_temperature 2 (some .float)) ∈ fw_U := fw_inU (i := 752) (by decide +kernel) (by decide +kernel)
theorem m_749 : (Cond.methodLink RL 76 yX9_temperature) ∈ fw_U := fw_inU (i := 749) (by decide +kernel) (by decide +kernel)
theorem m_750 : (Cond.instanceMethod yX9_temperature) ∈ fw_U := fw_inU (i := 750) (by decide +kernel) (by decide +kernel)
theorem m_751 : (Cond.selects RX9 yX9_temperature yX9_temperature) ∈ fw_U := fw_inU (i := 751) (by decide +kernel) (by decide +kernel)
theorem m_748 : (Cond.codeWith yL_temperature cL_temperature 4 (some .int) [(0, 9, 12, 13)]) ∈ fw_U := fw_inU (i := 748) (by decide +kernel) (by decide +kernel)
theorem m_759 : (Cond.code yX9_temperatureBits cX9_temperatureBits 2 (some .int)) ∈ fw_U := fw_inU (i := 759) (by decide +kernel) (by decide +kernel)
theorem m_756 : (Cond.methodLink RL 80 yX9_temperatureBits) ∈ fw_U := fw_inU (i := 756) (by decide +kernel) (by decide +kernel)
theorem m_757 : (Cond.instanceMethod yX9_temperatureBits) ∈ fw_U := fw_inU (i := 757) (by decide +kernel) (by decide +kernel)
theorem m_758 : (Cond.selects RX9 yX9_temperatureBits yX9_temperatureBits) ∈ fw_U := fw_inU (i := 758) (by decide +kernel) (by decide +kernel)
theorem m_755 : (Cond.codeWith yL_temperatureBits cL_temperatureBits 4 (some .int) [(0, 9, 12, 13)]) ∈ fw_U := fw_inU (i := 755) (by decide +kernel) (by decide +kernel)
theorem m_770 : (Cond.code yX9_washableStains cX9_washableStains 2 (some .int)) ∈ fw_U := fw_inU (i := 770) (by decide +kernel) (by decide +kernel)
theorem m_767 : (Cond.methodLink RL 83 yX9_washableStains) ∈ fw_U := fw_inU (i := 767) (by decide +kernel) (by decide +kernel)
theorem m_768 : (Cond.instanceMethod yX9_washableStains) ∈ fw_U := fw_inU (i := 768) (by decide +kernel) (by decide +kernel)
theorem m_769 : (Cond.selects RX9 yX9_washableStains yX9_washableStains) ∈ fw_U := fw_inU (i := 769) (by decide +kernel) (by decide +kernel)
theorem m_766 : (Cond.codeWith yL_washableStains cL_washableStains 4 (some .int) [(0, 9, 12, 13)]) ∈ fw_U := fw_inU (i := 766) (by decide +kernel) (by decide +kernel)
theorem m_778 : (Cond.code yX9_commonStains cX9_commonStains 2 (some .int)) ∈ fw_U := fw_inU (i := 778) (by decide +kernel) (by decide +kernel)
theorem m_775 : (Cond.methodLink RL 86 yX9_commonStains) ∈ fw_U := fw_inU (i := 775) (by decide +kernel) (by decide +kernel)
theorem m_776 : (Cond.instanceMethod yX9_commonStains) ∈ fw_U := fw_inU (i := 776) (by decide +kernel) (by decide +kernel)
theorem m_777 : (Cond.selects RX9 yX9_commonStains yX9_commonStains) ∈ fw_U := fw_inU (i := 777) (by decide +kernel) (by decide +kernel)
theorem m_774 : (Cond.codeWith yL_commonStains cL_commonStains 4 (some .int) [(0, 9, 12, 13)]) ∈ fw_U := fw_inU (i := 774) (by decide +kernel) (by decide +kernel)
theorem m_789 : (Cond.code yX9_coloursIn cX9_coloursIn 2 (some .int)) ∈ fw_U := fw_inU (i := 789) (by decide +kernel) (by decide +kernel)
theorem m_786 : (Cond.methodLink RL 89 yX9_coloursIn) ∈ fw_U := fw_inU (i := 786) (by decide +kernel) (by decide +kernel)
theorem m_787 : (Cond.instanceMethod yX9_coloursIn) ∈ fw_U := fw_inU (i := 787) (by decide +kernel) (by decide +kernel)
theorem m_788 : (Cond.selects RX9 yX9_coloursIn yX9_coloursIn) ∈ fw_U := fw_inU (i := 788) (by decide +kernel) (by decide +kernel)
theorem m_785 : (Cond.codeWith yL_coloursIn cL_coloursIn 4 (some .int) [(0, 9, 12, 13)]) ∈ fw_U := fw_inU (i := 785) (by decide +kernel) (by decide +kernel)
theorem m_800 : (Cond.code yX9_damage cX9_damage 2 (some .int)) ∈ fw_U := fw_inU (i := 800) (by decide +kernel) (by decide +kernel)
theorem m_797 : (Cond.methodLink RL 92 yX9_damage) ∈ fw_U := fw_inU (i := 797) (by decide +kernel) (by decide +kernel)
theorem m_798 : (Cond.instanceMethod yX9_damage) ∈ fw_U := fw_inU (i := 798) (by decide +kernel) (by decide +kernel)
theorem m_799 : (Cond.selects RX9 yX9_damage yX9_damage) ∈ fw_U := fw_inU (i := 799) (by decide +kernel) (by decide +kernel)
theorem m_796 : (Cond.codeWith yL_damage cL_damage 4 (some .int) [(0, 9, 12, 13)]) ∈ fw_U := fw_inU (i := 796) (by decide +kernel) (by decide +kernel)
theorem m_807 : (Cond.code yX9_damageByMasks cX9_damageByMasks 2 (some .int)) ∈ fw_U := fw_inU (i := 807) (by decide +kernel) (by decide +kernel)
theorem m_804 : (Cond.methodLink RL 95 yX9_damageByMasks) ∈ fw_U := fw_inU (i := 804) (by decide +kernel) (by decide +kernel)
theorem m_805 : (Cond.instanceMethod yX9_damageByMasks) ∈ fw_U := fw_inU (i := 805) (by decide +kernel) (by decide +kernel)
theorem m_806 : (Cond.selects RX9 yX9_damageByMasks yX9_damageByMasks) ∈ fw_U := fw_inU (i := 806) (by decide +kernel) (by decide +kernel)
theorem m_803 : (Cond.codeWith yL_damageByMasks cL_damageByMasks 4 (some .int) [(0, 9, 12, 13)]) ∈ fw_U := fw_inU (i := 803) (by decide +kernel) (by decide +kernel)
theorem m_814 : (Cond.code yX9_bestTemperature cX9_bestTemperature 2 (some .int)) ∈ fw_U := fw_inU (i := 814) (by decide +kernel) (by decide +kernel)
theorem m_811 : (Cond.methodLink RL 98 yX9_bestTemperature) ∈ fw_U := fw_inU (i := 811) (by decide +kernel) (by decide +kernel)
theorem m_812 : (Cond.instanceMethod yX9_bestTemperature) ∈ fw_U := fw_inU (i := 812) (by decide +kernel) (by decide +kernel)
theorem m_813 : (Cond.selects RX9 yX9_bestTemperature yX9_bestTemperature) ∈ fw_U := fw_inU (i := 813) (by decide +kernel) (by decide +kernel)
theorem m_810 : (Cond.codeWith yL_bestTemperature cL_bestTemperature 4 (some .int) [(0, 9, 12, 13), (0, 9, 15, 17)]) ∈ fw_U := fw_inU (i := 810) (by decide +kernel) (by decide +kernel)
theorem m_826 : (Cond.code yX9_price cX9_price 3 (some .float)) ∈ fw_U := fw_inU (i := 826) (by decide +kernel) (by decide +kernel)
theorem m_823 : (Cond.methodLink RL 101 yX9_price) ∈ fw_U := fw_inU (i := 823) (by decide +kernel) (by decide +kernel)
theorem m_824 : (Cond.instanceMethod yX9_price) ∈ fw_U := fw_inU (i := 824) (by decide +kernel) (by decide +kernel)
theorem m_825 : (Cond.selects RX9 yX9_price yX9_price) ∈ fw_U := fw_inU (i := 825) (by decide +kernel) (by decide +kernel)
theorem m_822 : (Cond.codeWith yL_price cL_price 5 (some .int) [(0, 10, 13, 13)]) ∈ fw_U := fw_inU (i := 822) (by decide +kernel) (by decide +kernel)
theorem m_834 : (Cond.code yX9_paid cX9_paid 2 (some .float)) ∈ fw_U := fw_inU (i := 834) (by decide +kernel) (by decide +kernel)
theorem m_831 : (Cond.methodLink RL 104 yX9_paid) ∈ fw_U := fw_inU (i := 831) (by decide +kernel) (by decide +kernel)
theorem m_832 : (Cond.instanceMethod yX9_paid) ∈ fw_U := fw_inU (i := 832) (by decide +kernel) (by decide +kernel)
theorem m_833 : (Cond.selects RX9 yX9_paid yX9_paid) ∈ fw_U := fw_inU (i := 833) (by decide +kernel) (by decide +kernel)
theorem m_830 : (Cond.codeWith yL_paid cL_paid 4 (some .int) [(0, 9, 12, 13)]) ∈ fw_U := fw_inU (i := 830) (by decide +kernel) (by decide +kernel)
theorem m_841 : (Cond.code yX9_paidBits cX9_paidBits 2 (some .int)) ∈ fw_U := fw_inU (i := 841) (by decide +kernel) (by decide +kernel)
theorem m_838 : (Cond.methodLink RL 107 yX9_paidBits) ∈ fw_U := fw_inU (i := 838) (by decide +kernel) (by decide +kernel)
theorem m_839 : (Cond.instanceMethod yX9_paidBits) ∈ fw_U := fw_inU (i := 839) (by decide +kernel) (by decide +kernel)
theorem m_840 : (Cond.selects RX9 yX9_paidBits yX9_paidBits) ∈ fw_U := fw_inU (i := 840) (by decide +kernel) (by decide +kernel)
theorem m_837 : (Cond.codeWith yL_paidBits cL_paidBits 4 (some .int) [(0, 9, 12, 13)]) ∈ fw_U := fw_inU (i := 837) (by decide +kernel) (by decide +kernel)
theorem m_848 : (Cond.code yX9_packed cX9_packed 2 (some .long)) ∈ fw_U := fw_inU (i := 848) (by decide +kernel) (by decide +kernel)
theorem m_845 : (Cond.methodLink RL 110 yX9_packed) ∈ fw_U := fw_inU (i := 845) (by decide +kernel) (by decide +kernel)
theorem m_846 : (Cond.instanceMethod yX9_packed) ∈ fw_U := fw_inU (i := 846) (by decide +kernel) (by decide +kernel)
theorem m_847 : (Cond.selects RX9 yX9_packed yX9_packed) ∈ fw_U := fw_inU (i := 847) (by decide +kernel) (by decide +kernel)
theorem m_844 : (Cond.codeWith yL_packed cL_packed 4 (some .int) [(0, 8, 11, 13)]) ∈ fw_U := fw_inU (i := 844) (by decide +kernel) (by decide +kernel)
theorem m_859 : (Cond.code yX9_dirtiest cX9_dirtiest 3 (some .int)) ∈ fw_U := fw_inU (i := 859) (by decide +kernel) (by decide +kernel)
theorem m_856 : (Cond.methodLink RL 114 yX9_dirtiest) ∈ fw_U := fw_inU (i := 856) (by decide +kernel) (by decide +kernel)
theorem m_857 : (Cond.instanceMethod yX9_dirtiest) ∈ fw_U := fw_inU (i := 857) (by decide +kernel) (by decide +kernel)
theorem m_858 : (Cond.selects RX9 yX9_dirtiest yX9_dirtiest) ∈ fw_U := fw_inU (i := 858) (by decide +kernel) (by decide +kernel)
theorem m_855 : (Cond.codeWith yL_dirtiest cL_dirtiest 4 (some .int) [(0, 9, 12, 62)]) ∈ fw_U := fw_inU (i := 855) (by decide +kernel) (by decide +kernel)
theorem m_871 : (Cond.code yX9_spender cX9_spender 3 (some .int)) ∈ fw_U := fw_inU (i := 871) (by decide +kernel) (by decide +kernel)
theorem m_868 : (Cond.methodLink RL 117 yX9_spender) ∈ fw_U := fw_inU (i := 868) (by decide +kernel) (by decide +kernel)
theorem m_869 : (Cond.instanceMethod yX9_spender) ∈ fw_U := fw_inU (i := 869) (by decide +kernel) (by decide +kernel)
theorem m_870 : (Cond.selects RX9 yX9_spender yX9_spender) ∈ fw_U := fw_inU (i := 870) (by decide +kernel) (by decide +kernel)
theorem m_867 : (Cond.codeWith yL_spender cL_spender 4 (some .int) [(0, 9, 12, 62)]) ∈ fw_U := fw_inU (i := 867) (by decide +kernel) (by decide +kernel)
theorem m_897 : (Cond.code yX9_meanStains cX9_meanStains 4 (some .double)) ∈ fw_U := fw_inU (i := 897) (by decide +kernel) (by decide +kernel)
theorem m_894 : (Cond.methodLink RL 120 yX9_meanStains) ∈ fw_U := fw_inU (i := 894) (by decide +kernel) (by decide +kernel)
theorem m_895 : (Cond.instanceMethod yX9_meanStains) ∈ fw_U := fw_inU (i := 895) (by decide +kernel) (by decide +kernel)
theorem m_896 : (Cond.selects RX9 yX9_meanStains yX9_meanStains) ∈ fw_U := fw_inU (i := 896) (by decide +kernel) (by decide +kernel)
theorem m_880 : (Cond.classLink RL 124 "java/lang/ArithmeticException") ∈ fw_U := fw_inU (i := 880) (by decide +kernel) (by decide +kernel)
theorem m_879 : (Cond.codeWith yL_meanStains cL_meanStains 3 (some .int) [(0, 7, 10, 124)]) ∈ fw_U := fw_inU (i := 879) (by decide +kernel) (by decide +kernel)
theorem m_907 : (Cond.code yX9_lostShare cX9_lostShare 2 (some .float)) ∈ fw_U := fw_inU (i := 907) (by decide +kernel) (by decide +kernel)
theorem m_904 : (Cond.methodLink RL 126 yX9_lostShare) ∈ fw_U := fw_inU (i := 904) (by decide +kernel) (by decide +kernel)
theorem m_905 : (Cond.instanceMethod yX9_lostShare) ∈ fw_U := fw_inU (i := 905) (by decide +kernel) (by decide +kernel)
theorem m_906 : (Cond.selects RX9 yX9_lostShare yX9_lostShare) ∈ fw_U := fw_inU (i := 906) (by decide +kernel) (by decide +kernel)
theorem m_903 : (Cond.codeWith yL_lostShare cL_lostShare 3 (some .int) [(0, 8, 11, 124)]) ∈ fw_U := fw_inU (i := 903) (by decide +kernel) (by decide +kernel)
theorem m_916 : (Cond.code yX9_feed cX9_feed 2 (some .int)) ∈ fw_U := fw_inU (i := 916) (by decide +kernel) (by decide +kernel)
theorem m_913 : (Cond.methodLink RL 130 yX9_feed) ∈ fw_U := fw_inU (i := 913) (by decide +kernel) (by decide +kernel)
theorem m_914 : (Cond.instanceMethod yX9_feed) ∈ fw_U := fw_inU (i := 914) (by decide +kernel) (by decide +kernel)
theorem m_915 : (Cond.selects RX9 yX9_feed yX9_feed) ∈ fw_U := fw_inU (i := 915) (by decide +kernel) (by decide +kernel)
theorem m_912 : (Cond.codeWith yL_feed cL_feed 4 (some .int) [(0, 9, 12, 17)]) ∈ fw_U := fw_inU (i := 912) (by decide +kernel) (by decide +kernel)
theorem m_928 : (Cond.code yX9_runCommands cX9_runCommands 3 (some .int)) ∈ fw_U := fw_inU (i := 928) (by decide +kernel) (by decide +kernel)
theorem m_925 : (Cond.methodLink RL 134 yX9_runCommands) ∈ fw_U := fw_inU (i := 925) (by decide +kernel) (by decide +kernel)
theorem m_926 : (Cond.instanceMethod yX9_runCommands) ∈ fw_U := fw_inU (i := 926) (by decide +kernel) (by decide +kernel)
theorem m_927 : (Cond.selects RX9 yX9_runCommands yX9_runCommands) ∈ fw_U := fw_inU (i := 927) (by decide +kernel) (by decide +kernel)
theorem m_924 : (Cond.codeWith yL_runCommands cL_runCommands 3 (some .int) [(0, 8, 11, 15), (0, 8, 14, 23)]) ∈ fw_U := fw_inU (i := 924) (by decide +kernel) (by decide +kernel)
theorem m_1049 : (Cond.code yX9_errorPosition cX9_errorPosition 1 (some .int)) ∈ fw_U := fw_inU (i := 1049) (by decide +kernel) (by decide +kernel)
theorem m_1046 : (Cond.methodLink RL 138 yX9_errorPosition) ∈ fw_U := fw_inU (i := 1046) (by decide +kernel) (by decide +kernel)
theorem m_1047 : (Cond.instanceMethod yX9_errorPosition) ∈ fw_U := fw_inU (i := 1047) (by decide +kernel) (by decide +kernel)
theorem m_1048 : (Cond.selects RX9 yX9_errorPosition yX9_errorPosition) ∈ fw_U := fw_inU (i := 1048) (by decide +kernel) (by decide +kernel)
theorem m_1045 : (Cond.codeWith yL_errorPosition cL_errorPosition 3 (some .int) [(0, 8, 11, 62)]) ∈ fw_U := fw_inU (i := 1045) (by decide +kernel) (by decide +kernel)
theorem m_1057 : (Cond.code yX9_failedCommand cX9_failedCommand 1 (some .int)) ∈ fw_U := fw_inU (i := 1057) (by decide +kernel) (by decide +kernel)
theorem m_1054 : (Cond.methodLink RL 141 yX9_failedCommand) ∈ fw_U := fw_inU (i := 1054) (by decide +kernel) (by decide +kernel)
theorem m_1055 : (Cond.instanceMethod yX9_failedCommand) ∈ fw_U := fw_inU (i := 1055) (by decide +kernel) (by decide +kernel)
theorem m_1056 : (Cond.selects RX9 yX9_failedCommand yX9_failedCommand) ∈ fw_U := fw_inU (i := 1056) (by decide +kernel) (by decide +kernel)
theorem m_1053 : (Cond.codeWith yL_failedCommand cL_failedCommand 3 (some .int) [(0, 8, 11, 62)]) ∈ fw_U := fw_inU (i := 1053) (by decide +kernel) (by decide +kernel)
theorem m_1065 : (Cond.code yX9_writeBag cX9_writeBag 3 (some .int)) ∈ fw_U := fw_inU (i := 1065) (by decide +kernel) (by decide +kernel)
theorem m_1062 : (Cond.methodLink RL 144 yX9_writeBag) ∈ fw_U := fw_inU (i := 1062) (by decide +kernel) (by decide +kernel)
theorem m_1063 : (Cond.instanceMethod yX9_writeBag) ∈ fw_U := fw_inU (i := 1063) (by decide +kernel) (by decide +kernel)
theorem m_1064 : (Cond.selects RX9 yX9_writeBag yX9_writeBag) ∈ fw_U := fw_inU (i := 1064) (by decide +kernel) (by decide +kernel)
theorem m_1061 : (Cond.codeWith yL_writeBag cL_writeBag 4 (some .int) [(0, 9, 12, 13)]) ∈ fw_U := fw_inU (i := 1061) (by decide +kernel) (by decide +kernel)
theorem m_1085 : (Cond.code yX9_outputChar cX9_outputChar 2 (some .char)) ∈ fw_U := fw_inU (i := 1085) (by decide +kernel) (by decide +kernel)
theorem m_1082 : (Cond.methodLink RL 147 yX9_outputChar) ∈ fw_U := fw_inU (i := 1082) (by decide +kernel) (by decide +kernel)
theorem m_1083 : (Cond.instanceMethod yX9_outputChar) ∈ fw_U := fw_inU (i := 1083) (by decide +kernel) (by decide +kernel)
theorem m_1084 : (Cond.selects RX9 yX9_outputChar yX9_outputChar) ∈ fw_U := fw_inU (i := 1084) (by decide +kernel) (by decide +kernel)
theorem m_1081 : (Cond.codeWith yL_outputChar cL_outputChar 4 (some .int) [(0, 9, 12, 13)]) ∈ fw_U := fw_inU (i := 1081) (by decide +kernel) (by decide +kernel)
theorem m_1093 : (Cond.code yX9_undo cX9_undo 1 (some .int)) ∈ fw_U := fw_inU (i := 1093) (by decide +kernel) (by decide +kernel)
theorem m_1090 : (Cond.methodLink RL 150 yX9_undo) ∈ fw_U := fw_inU (i := 1090) (by decide +kernel) (by decide +kernel)
theorem m_1091 : (Cond.instanceMethod yX9_undo) ∈ fw_U := fw_inU (i := 1091) (by decide +kernel) (by decide +kernel)
theorem m_1092 : (Cond.selects RX9 yX9_undo yX9_undo) ∈ fw_U := fw_inU (i := 1092) (by decide +kernel) (by decide +kernel)
theorem m_1089 : (Cond.codeWith yL_undo cL_undo 3 (some .int) [(0, 8, 11, 17)]) ∈ fw_U := fw_inU (i := 1089) (by decide +kernel) (by decide +kernel)
theorem m_1105 : (Cond.code yX9_restore cX9_restore 1 (some .int)) ∈ fw_U := fw_inU (i := 1105) (by decide +kernel) (by decide +kernel)
theorem m_1102 : (Cond.methodLink RL 153 yX9_restore) ∈ fw_U := fw_inU (i := 1102) (by decide +kernel) (by decide +kernel)
theorem m_1103 : (Cond.instanceMethod yX9_restore) ∈ fw_U := fw_inU (i := 1103) (by decide +kernel) (by decide +kernel)
theorem m_1104 : (Cond.selects RX9 yX9_restore yX9_restore) ∈ fw_U := fw_inU (i := 1104) (by decide +kernel) (by decide +kernel)
theorem m_1101 : (Cond.codeWith yL_restore cL_restore 3 (some .int) [(0, 8, 11, 17)]) ∈ fw_U := fw_inU (i := 1101) (by decide +kernel) (by decide +kernel)
theorem m_335 : (Cond.methodLink RL 160 yL_bring) ∈ fw_U := fw_inU (i := 335) (by decide +kernel) (by decide +kernel)
theorem m_336 : (Cond.static yL_bring) ∈ fw_U := fw_inU (i := 336) (by decide +kernel) (by decide +kernel)
theorem m_0 : (Cond.initialized RL) ∈ fw_U := fw_inU (i := 0) (by decide +kernel) (by decide +kernel)
theorem m_1185 : (Cond.code yX10_bring cX10_bring 5 (some .int)) ∈ fw_U := fw_inU (i := 1185) (by decide +kernel) (by decide +kernel)
theorem m_1182 : (Cond.methodLink RL 165 yX10_bring) ∈ fw_U := fw_inU (i := 1182) (by decide +kernel) (by decide +kernel)
theorem m_1183 : (Cond.instanceMethod yX10_bring) ∈ fw_U := fw_inU (i := 1183) (by decide +kernel) (by decide +kernel)
theorem m_1184 : (Cond.selects RX10 yX10_bring yX10_bring) ∈ fw_U := fw_inU (i := 1184) (by decide +kernel) (by decide +kernel)
theorem m_1181 : (Cond.code yX10_thrown cX10_thrown 1 (some .int)) ∈ fw_U := fw_inU (i := 1181) (by decide +kernel) (by decide +kernel)
theorem m_1178 : (Cond.methodLink RL 166 yX10_thrown) ∈ fw_U := fw_inU (i := 1178) (by decide +kernel) (by decide +kernel)
theorem m_1179 : (Cond.instanceMethod yX10_thrown) ∈ fw_U := fw_inU (i := 1179) (by decide +kernel) (by decide +kernel)
theorem m_1180 : (Cond.selects RX10 yX10_thrown yX10_thrown) ∈ fw_U := fw_inU (i := 1180) (by decide +kernel) (by decide +kernel)
theorem m_532 : (Cond.methodLink RL 169 yL_load) ∈ fw_U := fw_inU (i := 532) (by decide +kernel) (by decide +kernel)
theorem m_533 : (Cond.static yL_load) ∈ fw_U := fw_inU (i := 533) (by decide +kernel) (by decide +kernel)
theorem m_1223 : (Cond.code yX10_load cX10_load 3 (some .int)) ∈ fw_U := fw_inU (i := 1223) (by decide +kernel) (by decide +kernel)
theorem m_1220 : (Cond.methodLink RL 172 yX10_load) ∈ fw_U := fw_inU (i := 1220) (by decide +kernel) (by decide +kernel)
theorem m_1221 : (Cond.instanceMethod yX10_load) ∈ fw_U := fw_inU (i := 1221) (by decide +kernel) (by decide +kernel)
theorem m_1222 : (Cond.selects RX10 yX10_load yX10_load) ∈ fw_U := fw_inU (i := 1222) (by decide +kernel) (by decide +kernel)
theorem m_557 : (Cond.methodLink RL 173 yL_takeOut) ∈ fw_U := fw_inU (i := 557) (by decide +kernel) (by decide +kernel)
theorem m_558 : (Cond.static yL_takeOut) ∈ fw_U := fw_inU (i := 558) (by decide +kernel) (by decide +kernel)
theorem m_1250 : (Cond.code yX10_takeOut cX10_takeOut 2 (some .int)) ∈ fw_U := fw_inU (i := 1250) (by decide +kernel) (by decide +kernel)
theorem m_1247 : (Cond.methodLink RL 176 yX10_takeOut) ∈ fw_U := fw_inU (i := 1247) (by decide +kernel) (by decide +kernel)
theorem m_1248 : (Cond.instanceMethod yX10_takeOut) ∈ fw_U := fw_inU (i := 1248) (by decide +kernel) (by decide +kernel)
theorem m_1249 : (Cond.selects RX10 yX10_takeOut yX10_takeOut) ∈ fw_U := fw_inU (i := 1249) (by decide +kernel) (by decide +kernel)
theorem m_572 : (Cond.methodLink RL 177 yL_setTemperature) ∈ fw_U := fw_inU (i := 572) (by decide +kernel) (by decide +kernel)
theorem m_573 : (Cond.static yL_setTemperature) ∈ fw_U := fw_inU (i := 573) (by decide +kernel) (by decide +kernel)
theorem m_1258 : (Cond.code yX10_setTemperature cX10_setTemperature 4 (some .float)) ∈ fw_U := fw_inU (i := 1258) (by decide +kernel) (by decide +kernel)
theorem m_1255 : (Cond.methodLink RL 180 yX10_setTemperature) ∈ fw_U := fw_inU (i := 1255) (by decide +kernel) (by decide +kernel)
theorem m_1256 : (Cond.instanceMethod yX10_setTemperature) ∈ fw_U := fw_inU (i := 1256) (by decide +kernel) (by decide +kernel)
theorem m_1257 : (Cond.selects RX10 yX10_setTemperature yX10_setTemperature) ∈ fw_U := fw_inU (i := 1257) (by decide +kernel) (by decide +kernel)
theorem m_587 : (Cond.methodLink RL 181 yL_run) ∈ fw_U := fw_inU (i := 587) (by decide +kernel) (by decide +kernel)
theorem m_588 : (Cond.static yL_run) ∈ fw_U := fw_inU (i := 588) (by decide +kernel) (by decide +kernel)
theorem m_1267 : (Cond.code yX10_run cX10_run 2 (some .int)) ∈ fw_U := fw_inU (i := 1267) (by decide +kernel) (by decide +kernel)
theorem m_1264 : (Cond.methodLink RL 183 yX10_run) ∈ fw_U := fw_inU (i := 1264) (by decide +kernel) (by decide +kernel)
theorem m_1265 : (Cond.instanceMethod yX10_run) ∈ fw_U := fw_inU (i := 1265) (by decide +kernel) (by decide +kernel)
theorem m_1266 : (Cond.selects RX10 yX10_run yX10_run) ∈ fw_U := fw_inU (i := 1266) (by decide +kernel) (by decide +kernel)
theorem m_224 : (Cond.code yX9_garmentCount cX9_garmentCount 1 (some .int)) ∈ fw_U := fw_inU (i := 224) (by decide +kernel) (by decide +kernel)
theorem m_221 : (Cond.methodLink RL 184 yX9_garmentCount) ∈ fw_U := fw_inU (i := 221) (by decide +kernel) (by decide +kernel)
theorem m_222 : (Cond.instanceMethod yX9_garmentCount) ∈ fw_U := fw_inU (i := 222) (by decide +kernel) (by decide +kernel)
theorem m_223 : (Cond.selects RX9 yX9_garmentCount yX9_garmentCount) ∈ fw_U := fw_inU (i := 223) (by decide +kernel) (by decide +kernel)
theorem m_1329 : (Cond.code yX10_garmentCount cX10_garmentCount 1 (some .int)) ∈ fw_U := fw_inU (i := 1329) (by decide +kernel) (by decide +kernel)
theorem m_1326 : (Cond.methodLink RL 187 yX10_garmentCount) ∈ fw_U := fw_inU (i := 1326) (by decide +kernel) (by decide +kernel)
theorem m_1327 : (Cond.instanceMethod yX10_garmentCount) ∈ fw_U := fw_inU (i := 1327) (by decide +kernel) (by decide +kernel)
theorem m_1328 : (Cond.selects RX10 yX10_garmentCount yX10_garmentCount) ∈ fw_U := fw_inU (i := 1328) (by decide +kernel) (by decide +kernel)
theorem m_618 : (Cond.methodLink RL 188 yL_client) ∈ fw_U := fw_inU (i := 618) (by decide +kernel) (by decide +kernel)
theorem m_619 : (Cond.static yL_client) ∈ fw_U := fw_inU (i := 619) (by decide +kernel) (by decide +kernel)
theorem m_1333 : (Cond.code yX10_client cX10_client 2 (some .int)) ∈ fw_U := fw_inU (i := 1333) (by decide +kernel) (by decide +kernel)
theorem m_1330 : (Cond.methodLink RL 190 yX10_client) ∈ fw_U := fw_inU (i := 1330) (by decide +kernel) (by decide +kernel)
theorem m_1331 : (Cond.instanceMethod yX10_client) ∈ fw_U := fw_inU (i := 1331) (by decide +kernel) (by decide +kernel)
theorem m_1332 : (Cond.selects RX10 yX10_client yX10_client) ∈ fw_U := fw_inU (i := 1332) (by decide +kernel) (by decide +kernel)
theorem m_631 : (Cond.methodLink RL 191 yL_isSock) ∈ fw_U := fw_inU (i := 631) (by decide +kernel) (by decide +kernel)
theorem m_632 : (Cond.static yL_isSock) ∈ fw_U := fw_inU (i := 632) (by decide +kernel) (by decide +kernel)
theorem m_1341 : (Cond.code yX10_isSock cX10_isSock 2 (some .boolean)) ∈ fw_U := fw_inU (i := 1341) (by decide +kernel) (by decide +kernel)
theorem m_1338 : (Cond.methodLink RL 193 yX10_isSock) ∈ fw_U := fw_inU (i := 1338) (by decide +kernel) (by decide +kernel)
theorem m_1339 : (Cond.instanceMethod yX10_isSock) ∈ fw_U := fw_inU (i := 1339) (by decide +kernel) (by decide +kernel)
theorem m_1340 : (Cond.selects RX10 yX10_isSock yX10_isSock) ∈ fw_U := fw_inU (i := 1340) (by decide +kernel) (by decide +kernel)
theorem m_638 : (Cond.methodLink RL 194 yL_colour) ∈ fw_U := fw_inU (i := 638) (by decide +kernel) (by decide +kernel)
theorem m_639 : (Cond.static yL_colour) ∈ fw_U := fw_inU (i := 639) (by decide +kernel) (by decide +kernel)
theorem m_1345 : (Cond.code yX10_colour cX10_colour 2 (some .int)) ∈ fw_U := fw_inU (i := 1345) (by decide +kernel) (by decide +kernel)
theorem m_1342 : (Cond.methodLink RL 196 yX10_colour) ∈ fw_U := fw_inU (i := 1342) (by decide +kernel) (by decide +kernel)
theorem m_1343 : (Cond.instanceMethod yX10_colour) ∈ fw_U := fw_inU (i := 1343) (by decide +kernel) (by decide +kernel)
theorem m_1344 : (Cond.selects RX10 yX10_colour yX10_colour) ∈ fw_U := fw_inU (i := 1344) (by decide +kernel) (by decide +kernel)
theorem m_645 : (Cond.methodLink RL 197 yL_stains) ∈ fw_U := fw_inU (i := 645) (by decide +kernel) (by decide +kernel)
theorem m_646 : (Cond.static yL_stains) ∈ fw_U := fw_inU (i := 646) (by decide +kernel) (by decide +kernel)
theorem m_1349 : (Cond.code yX10_stains cX10_stains 2 (some .int)) ∈ fw_U := fw_inU (i := 1349) (by decide +kernel) (by decide +kernel)
theorem m_1346 : (Cond.methodLink RL 199 yX10_stains) ∈ fw_U := fw_inU (i := 1346) (by decide +kernel) (by decide +kernel)
theorem m_1347 : (Cond.instanceMethod yX10_stains) ∈ fw_U := fw_inU (i := 1347) (by decide +kernel) (by decide +kernel)
theorem m_1348 : (Cond.selects RX10 yX10_stains yX10_stains) ∈ fw_U := fw_inU (i := 1348) (by decide +kernel) (by decide +kernel)
theorem m_652 : (Cond.methodLink RL 200 yL_stainCount) ∈ fw_U := fw_inU (i := 652) (by decide +kernel) (by decide +kernel)
theorem m_653 : (Cond.static yL_stainCount) ∈ fw_U := fw_inU (i := 653) (by decide +kernel) (by decide +kernel)
theorem m_1353 : (Cond.code yX10_stainCount cX10_stainCount 2 (some .int)) ∈ fw_U := fw_inU (i := 1353) (by decide +kernel) (by decide +kernel)
theorem m_1350 : (Cond.methodLink RL 202 yX10_stainCount) ∈ fw_U := fw_inU (i := 1350) (by decide +kernel) (by decide +kernel)
theorem m_1351 : (Cond.instanceMethod yX10_stainCount) ∈ fw_U := fw_inU (i := 1351) (by decide +kernel) (by decide +kernel)
theorem m_1352 : (Cond.selects RX10 yX10_stainCount yX10_stainCount) ∈ fw_U := fw_inU (i := 1352) (by decide +kernel) (by decide +kernel)
theorem m_660 : (Cond.methodLink RL 203 yL_place) ∈ fw_U := fw_inU (i := 660) (by decide +kernel) (by decide +kernel)
theorem m_661 : (Cond.static yL_place) ∈ fw_U := fw_inU (i := 661) (by decide +kernel) (by decide +kernel)
theorem m_1360 : (Cond.code yX10_place cX10_place 2 (some .char)) ∈ fw_U := fw_inU (i := 1360) (by decide +kernel) (by decide +kernel)
theorem m_1357 : (Cond.methodLink RL 205 yX10_place) ∈ fw_U := fw_inU (i := 1357) (by decide +kernel) (by decide +kernel)
theorem m_1358 : (Cond.instanceMethod yX10_place) ∈ fw_U := fw_inU (i := 1358) (by decide +kernel) (by decide +kernel)
theorem m_1359 : (Cond.selects RX10 yX10_place yX10_place) ∈ fw_U := fw_inU (i := 1359) (by decide +kernel) (by decide +kernel)
theorem m_670 : (Cond.methodLink RL 206 yL_washes) ∈ fw_U := fw_inU (i := 670) (by decide +kernel) (by decide +kernel)
theorem m_671 : (Cond.static yL_washes) ∈ fw_U := fw_inU (i := 671) (by decide +kernel) (by decide +kernel)
theorem m_1366 : (Cond.code yX10_washes cX10_washes 2 (some .int)) ∈ fw_U := fw_inU (i := 1366) (by decide +kernel) (by decide +kernel)
theorem m_1363 : (Cond.methodLink RL 208 yX10_washes) ∈ fw_U := fw_inU (i := 1363) (by decide +kernel) (by decide +kernel)
theorem m_1364 : (Cond.instanceMethod yX10_washes) ∈ fw_U := fw_inU (i := 1364) (by decide +kernel) (by decide +kernel)
theorem m_1365 : (Cond.selects RX10 yX10_washes yX10_washes) ∈ fw_U := fw_inU (i := 1365) (by decide +kernel) (by decide +kernel)
theorem m_677 : (Cond.methodLink RL 209 yL_partner) ∈ fw_U := fw_inU (i := 677) (by decide +kernel) (by decide +kernel)
theorem m_678 : (Cond.static yL_partner) ∈ fw_U := fw_inU (i := 678) (by decide +kernel) (by decide +kernel)
theorem m_1370 : (Cond.code yX10_partner cX10_partner 2 (some .int)) ∈ fw_U := fw_inU (i := 1370) (by decide +kernel) (by decide +kernel)
theorem m_1367 : (Cond.methodLink RL 211 yX10_partner) ∈ fw_U := fw_inU (i := 1367) (by decide +kernel) (by decide +kernel)
theorem m_1368 : (Cond.instanceMethod yX10_partner) ∈ fw_U := fw_inU (i := 1368) (by decide +kernel) (by decide +kernel)
theorem m_1369 : (Cond.selects RX10 yX10_partner yX10_partner) ∈ fw_U := fw_inU (i := 1369) (by decide +kernel) (by decide +kernel)
theorem m_703 : (Cond.methodLink RL 212 yL_pairCount) ∈ fw_U := fw_inU (i := 703) (by decide +kernel) (by decide +kernel)
theorem m_704 : (Cond.static yL_pairCount) ∈ fw_U := fw_inU (i := 704) (by decide +kernel) (by decide +kernel)
theorem m_1379 : (Cond.methodLink RL 214 yX10_pairCount) ∈ fw_U := fw_inU (i := 1379) (by decide +kernel) (by decide +kernel)
theorem m_715 : (Cond.methodLink RL 215 yL_pairCountByParity) ∈ fw_U := fw_inU (i := 715) (by decide +kernel) (by decide +kernel)
theorem m_716 : (Cond.static yL_pairCountByParity) ∈ fw_U := fw_inU (i := 716) (by decide +kernel) (by decide +kernel)
theorem m_1386 : (Cond.code yX10_pairCountByParity cX10_pairCountByParity 2 (some .int)) ∈ fw_U := fw_inU (i := 1386) (by decide +kernel) (by decide +kernel)
theorem m_1383 : (Cond.methodLink RL 217 yX10_pairCountByParity) ∈ fw_U := fw_inU (i := 1383) (by decide +kernel) (by decide +kernel)
theorem m_1384 : (Cond.instanceMethod yX10_pairCountByParity) ∈ fw_U := fw_inU (i := 1384) (by decide +kernel) (by decide +kernel)
theorem m_1385 : (Cond.selects RX10 yX10_pairCountByParity yX10_pairCountByParity) ∈ fw_U := fw_inU (i := 1385) (by decide +kernel) (by decide +kernel)
theorem m_722 : (Cond.methodLink RL 218 yL_inBag) ∈ fw_U := fw_inU (i := 722) (by decide +kernel) (by decide +kernel)
theorem m_723 : (Cond.static yL_inBag) ∈ fw_U := fw_inU (i := 723) (by decide +kernel) (by decide +kernel)
theorem m_1391 : (Cond.code yX10_inBag cX10_inBag 4 (some .int)) ∈ fw_U := fw_inU (i := 1391) (by decide +kernel) (by decide +kernel)
theorem m_1388 : (Cond.methodLink RL 220 yX10_inBag) ∈ fw_U := fw_inU (i := 1388) (by decide +kernel) (by decide +kernel)
theorem m_1389 : (Cond.instanceMethod yX10_inBag) ∈ fw_U := fw_inU (i := 1389) (by decide +kernel) (by decide +kernel)
theorem m_1390 : (Cond.selects RX10 yX10_inBag yX10_inBag) ∈ fw_U := fw_inU (i := 1390) (by decide +kernel) (by decide +kernel)
theorem m_734 : (Cond.methodLink RL 221 yL_inMachine) ∈ fw_U := fw_inU (i := 734) (by decide +kernel) (by decide +kernel)
theorem m_735 : (Cond.static yL_inMachine) ∈ fw_U := fw_inU (i := 735) (by decide +kernel) (by decide +kernel)
theorem m_1395 : (Cond.code yX10_inMachine cX10_inMachine 4 (some .int)) ∈ fw_U := fw_inU (i := 1395) (by decide +kernel) (by decide +kernel)
theorem m_1392 : (Cond.methodLink RL 223 yX10_inMachine) ∈ fw_U := fw_inU (i := 1392) (by decide +kernel) (by decide +kernel)
theorem m_1393 : (Cond.instanceMethod yX10_inMachine) ∈ fw_U := fw_inU (i := 1393) (by decide +kernel) (by decide +kernel)
theorem m_1394 : (Cond.selects RX10 yX10_inMachine yX10_inMachine) ∈ fw_U := fw_inU (i := 1394) (by decide +kernel) (by decide +kernel)
theorem m_228 : (Cond.code yX9_lost cX9_lost 1 (some .int)) ∈ fw_U := fw_inU (i := 228) (by decide +kernel) (by decide +kernel)
theorem m_225 : (Cond.methodLink RL 224 yX9_lost) ∈ fw_U := fw_inU (i := 225) (by decide +kernel) (by decide +kernel)
theorem m_226 : (Cond.instanceMethod yX9_lost) ∈ fw_U := fw_inU (i := 226) (by decide +kernel) (by decide +kernel)
theorem m_227 : (Cond.selects RX9 yX9_lost yX9_lost) ∈ fw_U := fw_inU (i := 227) (by decide +kernel) (by decide +kernel)
theorem m_1399 : (Cond.code yX10_lost cX10_lost 3 (some .int)) ∈ fw_U := fw_inU (i := 1399) (by decide +kernel) (by decide +kernel)
theorem m_1396 : (Cond.methodLink RL 227 yX10_lost) ∈ fw_U := fw_inU (i := 1396) (by decide +kernel) (by decide +kernel)
theorem m_1397 : (Cond.instanceMethod yX10_lost) ∈ fw_U := fw_inU (i := 1397) (by decide +kernel) (by decide +kernel)
theorem m_1398 : (Cond.selects RX10 yX10_lost yX10_lost) ∈ fw_U := fw_inU (i := 1398) (by decide +kernel) (by decide +kernel)
theorem m_746 : (Cond.methodLink RL 228 yL_temperature) ∈ fw_U := fw_inU (i := 746) (by decide +kernel) (by decide +kernel)
theorem m_747 : (Cond.static yL_temperature) ∈ fw_U := fw_inU (i := 747) (by decide +kernel) (by decide +kernel)
theorem m_1403 : (Cond.code yX10_temperature cX10_temperature 2 (some .float)) ∈ fw_U := fw_inU (i := 1403) (by decide +kernel) (by decide +kernel)
theorem m_1400 : (Cond.methodLink RL 231 yX10_temperature) ∈ fw_U := fw_inU (i := 1400) (by decide +kernel) (by decide +kernel)
theorem m_1401 : (Cond.instanceMethod yX10_temperature) ∈ fw_U := fw_inU (i := 1401) (by decide +kernel) (by decide +kernel)
theorem m_1402 : (Cond.selects RX10 yX10_temperature yX10_temperature) ∈ fw_U := fw_inU (i := 1402) (by decide +kernel) (by decide +kernel)
theorem m_753 : (Cond.methodLink RL 232 yL_temperatureBits) ∈ fw_U := fw_inU (i := 753) (by decide +kernel) (by decide +kernel)
theorem m_754 : (Cond.static yL_temperatureBits) ∈ fw_U := fw_inU (i := 754) (by decide +kernel) (by decide +kernel)
theorem m_1407 : (Cond.code yX10_temperatureBits cX10_temperatureBits 2 (some .int)) ∈ fw_U := fw_inU (i := 1407) (by decide +kernel) (by decide +kernel)
theorem m_1404 : (Cond.methodLink RL 234 yX10_temperatureBits) ∈ fw_U := fw_inU (i := 1404) (by decide +kernel) (by decide +kernel)
theorem m_1405 : (Cond.instanceMethod yX10_temperatureBits) ∈ fw_U := fw_inU (i := 1405) (by decide +kernel) (by decide +kernel)
theorem m_1406 : (Cond.selects RX10 yX10_temperatureBits yX10_temperatureBits) ∈ fw_U := fw_inU (i := 1406) (by decide +kernel) (by decide +kernel)
theorem m_764 : (Cond.methodLink RL 235 yL_washableStains) ∈ fw_U := fw_inU (i := 764) (by decide +kernel) (by decide +kernel)
theorem m_765 : (Cond.static yL_washableStains) ∈ fw_U := fw_inU (i := 765) (by decide +kernel) (by decide +kernel)
theorem m_1411 : (Cond.code yX10_washableStains cX10_washableStains 2 (some .int)) ∈ fw_U := fw_inU (i := 1411) (by decide +kernel) (by decide +kernel)
theorem m_1408 : (Cond.methodLink RL 237 yX10_washableStains) ∈ fw_U := fw_inU (i := 1408) (by decide +kernel) (by decide +kernel)
theorem m_1409 : (Cond.instanceMethod yX10_washableStains) ∈ fw_U := fw_inU (i := 1409) (by decide +kernel) (by decide +kernel)
theorem m_1410 : (Cond.selects RX10 yX10_washableStains yX10_washableStains) ∈ fw_U := fw_inU (i := 1410) (by decide +kernel) (by decide +kernel)
theorem m_772 : (Cond.methodLink RL 238 yL_commonStains) ∈ fw_U := fw_inU (i := 772) (by decide +kernel) (by decide +kernel)
theorem m_773 : (Cond.static yL_commonStains) ∈ fw_U := fw_inU (i := 773) (by decide +kernel) (by decide +kernel)
theorem m_1415 : (Cond.code yX10_commonStains cX10_commonStains 4 (some .int)) ∈ fw_U := fw_inU (i := 1415) (by decide +kernel) (by decide +kernel)
theorem m_1412 : (Cond.methodLink RL 240 yX10_commonStains) ∈ fw_U := fw_inU (i := 1412) (by decide +kernel) (by decide +kernel)
theorem m_1413 : (Cond.instanceMethod yX10_commonStains) ∈ fw_U := fw_inU (i := 1413) (by decide +kernel) (by decide +kernel)
theorem m_1414 : (Cond.selects RX10 yX10_commonStains yX10_commonStains) ∈ fw_U := fw_inU (i := 1414) (by decide +kernel) (by decide +kernel)
theorem m_783 : (Cond.methodLink RL 241 yL_coloursIn) ∈ fw_U := fw_inU (i := 783) (by decide +kernel) (by decide +kernel)
theorem m_784 : (Cond.static yL_coloursIn) ∈ fw_U := fw_inU (i := 784) (by decide +kernel) (by decide +kernel)
theorem m_1419 : (Cond.code yX10_coloursIn cX10_coloursIn 4 (some .int)) ∈ fw_U := fw_inU (i := 1419) (by decide +kernel) (by decide +kernel)
theorem m_1416 : (Cond.methodLink RL 243 yX10_coloursIn) ∈ fw_U := fw_inU (i := 1416) (by decide +kernel) (by decide +kernel)
theorem m_1417 : (Cond.instanceMethod yX10_coloursIn) ∈ fw_U := fw_inU (i := 1417) (by decide +kernel) (by decide +kernel)
theorem m_1418 : (Cond.selects RX10 yX10_coloursIn yX10_coloursIn) ∈ fw_U := fw_inU (i := 1418) (by decide +kernel) (by decide +kernel)
theorem m_794 : (Cond.methodLink RL 244 yL_damage) ∈ fw_U := fw_inU (i := 794) (by decide +kernel) (by decide +kernel)
theorem m_795 : (Cond.static yL_damage) ∈ fw_U := fw_inU (i := 795) (by decide +kernel) (by decide +kernel)
theorem m_1420 : (Cond.methodLink RL 246 yX10_damage) ∈ fw_U := fw_inU (i := 1420) (by decide +kernel) (by decide +kernel)
theorem m_801 : (Cond.methodLink RL 247 yL_damageByMasks) ∈ fw_U := fw_inU (i := 801) (by decide +kernel) (by decide +kernel)
theorem m_802 : (Cond.static yL_damageByMasks) ∈ fw_U := fw_inU (i := 802) (by decide +kernel) (by decide +kernel)
theorem m_1431 : (Cond.code yX10_damageByMasks cX10_damageByMasks 2 (some .int)) ∈ fw_U := fw_inU (i := 1431) (by decide +kernel) (by decide +kernel)
theorem m_1428 : (Cond.methodLink RL 249 yX10_damageByMasks) ∈ fw_U := fw_inU (i := 1428) (by decide +kernel) (by decide +kernel)
theorem m_1429 : (Cond.instanceMethod yX10_damageByMasks) ∈ fw_U := fw_inU (i := 1429) (by decide +kernel) (by decide +kernel)
theorem m_1430 : (Cond.selects RX10 yX10_damageByMasks yX10_damageByMasks) ∈ fw_U := fw_inU (i := 1430) (by decide +kernel) (by decide +kernel)
theorem m_808 : (Cond.methodLink RL 250 yL_bestTemperature) ∈ fw_U := fw_inU (i := 808) (by decide +kernel) (by decide +kernel)
theorem m_809 : (Cond.static yL_bestTemperature) ∈ fw_U := fw_inU (i := 809) (by decide +kernel) (by decide +kernel)
theorem m_1436 : (Cond.code yX10_bestTemperature cX10_bestTemperature 4 (some .int)) ∈ fw_U := fw_inU (i := 1436) (by decide +kernel) (by decide +kernel)
theorem m_1433 : (Cond.methodLink RL 252 yX10_bestTemperature) ∈ fw_U := fw_inU (i := 1433) (by decide +kernel) (by decide +kernel)
theorem m_1434 : (Cond.instanceMethod yX10_bestTemperature) ∈ fw_U := fw_inU (i := 1434) (by decide +kernel) (by decide +kernel)
theorem m_1435 : (Cond.selects RX10 yX10_bestTemperature yX10_bestTemperature) ∈ fw_U := fw_inU (i := 1435) (by decide +kernel) (by decide +kernel)
theorem m_820 : (Cond.methodLink RL 253 yL_price) ∈ fw_U := fw_inU (i := 820) (by decide +kernel) (by decide +kernel)
theorem m_821 : (Cond.static yL_price) ∈ fw_U := fw_inU (i := 821) (by decide +kernel) (by decide +kernel)
theorem m_1440 : (Cond.code yX10_price cX10_price 3 (some .float)) ∈ fw_U := fw_inU (i := 1440) (by decide +kernel) (by decide +kernel)
theorem m_1437 : (Cond.methodLink RL 255 yX10_price) ∈ fw_U := fw_inU (i := 1437) (by decide +kernel) (by decide +kernel)
theorem m_1438 : (Cond.instanceMethod yX10_price) ∈ fw_U := fw_inU (i := 1438) (by decide +kernel) (by decide +kernel)
theorem m_1439 : (Cond.selects RX10 yX10_price yX10_price) ∈ fw_U := fw_inU (i := 1439) (by decide +kernel) (by decide +kernel)
theorem m_828 : (Cond.methodLink RL 256 yL_paid) ∈ fw_U := fw_inU (i := 828) (by decide +kernel) (by decide +kernel)
theorem m_829 : (Cond.static yL_paid) ∈ fw_U := fw_inU (i := 829) (by decide +kernel) (by decide +kernel)
theorem m_1444 : (Cond.code yX10_paid cX10_paid 2 (some .float)) ∈ fw_U := fw_inU (i := 1444) (by decide +kernel) (by decide +kernel)
theorem m_1441 : (Cond.methodLink RL 258 yX10_paid) ∈ fw_U := fw_inU (i := 1441) (by decide +kernel) (by decide +kernel)
theorem m_1442 : (Cond.instanceMethod yX10_paid) ∈ fw_U := fw_inU (i := 1442) (by decide +kernel) (by decide +kernel)
theorem m_1443 : (Cond.selects RX10 yX10_paid yX10_paid) ∈ fw_U := fw_inU (i := 1443) (by decide +kernel) (by decide +kernel)
theorem m_835 : (Cond.methodLink RL 259 yL_paidBits) ∈ fw_U := fw_inU (i := 835) (by decide +kernel) (by decide +kernel)
theorem m_836 : (Cond.static yL_paidBits) ∈ fw_U := fw_inU (i := 836) (by decide +kernel) (by decide +kernel)
theorem m_1448 : (Cond.code yX10_paidBits cX10_paidBits 2 (some .int)) ∈ fw_U := fw_inU (i := 1448) (by decide +kernel) (by decide +kernel)
theorem m_1445 : (Cond.methodLink RL 261 yX10_paidBits) ∈ fw_U := fw_inU (i := 1445) (by decide +kernel) (by decide +kernel)
theorem m_1446 : (Cond.instanceMethod yX10_paidBits) ∈ fw_U := fw_inU (i := 1446) (by decide +kernel) (by decide +kernel)
theorem m_1447 : (Cond.selects RX10 yX10_paidBits yX10_paidBits) ∈ fw_U := fw_inU (i := 1447) (by decide +kernel) (by decide +kernel)
theorem m_842 : (Cond.methodLink RL 262 yL_packed) ∈ fw_U := fw_inU (i := 842) (by decide +kernel) (by decide +kernel)
theorem m_843 : (Cond.static yL_packed) ∈ fw_U := fw_inU (i := 843) (by decide +kernel) (by decide +kernel)
theorem m_1452 : (Cond.code yX10_packed cX10_packed 4 (some .long)) ∈ fw_U := fw_inU (i := 1452) (by decide +kernel) (by decide +kernel)
theorem m_1449 : (Cond.methodLink RL 264 yX10_packed) ∈ fw_U := fw_inU (i := 1449) (by decide +kernel) (by decide +kernel)
theorem m_1450 : (Cond.instanceMethod yX10_packed) ∈ fw_U := fw_inU (i := 1450) (by decide +kernel) (by decide +kernel)
theorem m_1451 : (Cond.selects RX10 yX10_packed yX10_packed) ∈ fw_U := fw_inU (i := 1451) (by decide +kernel) (by decide +kernel)
theorem m_236 : (Cond.code yX9_runCount cX9_runCount 1 (some .int)) ∈ fw_U := fw_inU (i := 236) (by decide +kernel) (by decide +kernel)
theorem m_233 : (Cond.methodLink RL 265 yX9_runCount) ∈ fw_U := fw_inU (i := 233) (by decide +kernel) (by decide +kernel)
theorem m_234 : (Cond.instanceMethod yX9_runCount) ∈ fw_U := fw_inU (i := 234) (by decide +kernel) (by decide +kernel)
theorem m_235 : (Cond.selects RX9 yX9_runCount yX9_runCount) ∈ fw_U := fw_inU (i := 235) (by decide +kernel) (by decide +kernel)
theorem m_1456 : (Cond.code yX10_runCount cX10_runCount 1 (some .int)) ∈ fw_U := fw_inU (i := 1456) (by decide +kernel) (by decide +kernel)
theorem m_1453 : (Cond.methodLink RL 268 yX10_runCount) ∈ fw_U := fw_inU (i := 1453) (by decide +kernel) (by decide +kernel)
theorem m_1454 : (Cond.instanceMethod yX10_runCount) ∈ fw_U := fw_inU (i := 1454) (by decide +kernel) (by decide +kernel)
theorem m_1455 : (Cond.selects RX10 yX10_runCount yX10_runCount) ∈ fw_U := fw_inU (i := 1455) (by decide +kernel) (by decide +kernel)
theorem m_853 : (Cond.methodLink RL 269 yL_dirtiest) ∈ fw_U := fw_inU (i := 853) (by decide +kernel) (by decide +kernel)
theorem m_854 : (Cond.static yL_dirtiest) ∈ fw_U := fw_inU (i := 854) (by decide +kernel) (by decide +kernel)
theorem m_1460 : (Cond.code yX10_dirtiest cX10_dirtiest 6 (some .int)) ∈ fw_U := fw_inU (i := 1460) (by decide +kernel) (by decide +kernel)
theorem m_1457 : (Cond.methodLink RL 271 yX10_dirtiest) ∈ fw_U := fw_inU (i := 1457) (by decide +kernel) (by decide +kernel)
theorem m_1458 : (Cond.instanceMethod yX10_dirtiest) ∈ fw_U := fw_inU (i := 1458) (by decide +kernel) (by decide +kernel)
theorem m_1459 : (Cond.selects RX10 yX10_dirtiest yX10_dirtiest) ∈ fw_U := fw_inU (i := 1459) (by decide +kernel) (by decide +kernel)
theorem m_865 : (Cond.methodLink RL 272 yL_spender) ∈ fw_U := fw_inU (i := 865) (by decide +kernel) (by decide +kernel)
theorem m_866 : (Cond.static yL_spender) ∈ fw_U := fw_inU (i := 866) (by decide +kernel) (by decide +kernel)
theorem m_1468 : (Cond.code yX10_spender cX10_spender 5 (some .int)) ∈ fw_U := fw_inU (i := 1468) (by decide +kernel) (by decide +kernel)
theorem m_1465 : (Cond.methodLink RL 274 yX10_spender) ∈ fw_U := fw_inU (i := 1465) (by decide +kernel) (by decide +kernel)
theorem m_1466 : (Cond.instanceMethod yX10_spender) ∈ fw_U := fw_inU (i := 1466) (by decide +kernel) (by decide +kernel)
theorem m_1467 : (Cond.selects RX10 yX10_spender yX10_spender) ∈ fw_U := fw_inU (i := 1467) (by decide +kernel) (by decide +kernel)
theorem m_877 : (Cond.methodLink RL 275 yL_meanStains) ∈ fw_U := fw_inU (i := 877) (by decide +kernel) (by decide +kernel)
theorem m_878 : (Cond.static yL_meanStains) ∈ fw_U := fw_inU (i := 878) (by decide +kernel) (by decide +kernel)
theorem m_1472 : (Cond.code yX10_meanStains cX10_meanStains 4 (some .double)) ∈ fw_U := fw_inU (i := 1472) (by decide +kernel) (by decide +kernel)
theorem m_1469 : (Cond.methodLink RL 278 yX10_meanStains) ∈ fw_U := fw_inU (i := 1469) (by decide +kernel) (by decide +kernel)
theorem m_1470 : (Cond.instanceMethod yX10_meanStains) ∈ fw_U := fw_inU (i := 1470) (by decide +kernel) (by decide +kernel)
theorem m_1471 : (Cond.selects RX10 yX10_meanStains yX10_meanStains) ∈ fw_U := fw_inU (i := 1471) (by decide +kernel) (by decide +kernel)
theorem m_901 : (Cond.methodLink RL 279 yL_lostShare) ∈ fw_U := fw_inU (i := 901) (by decide +kernel) (by decide +kernel)
theorem m_902 : (Cond.static yL_lostShare) ∈ fw_U := fw_inU (i := 902) (by decide +kernel) (by decide +kernel)
theorem m_1476 : (Cond.code yX10_lostShare cX10_lostShare 3 (some .float)) ∈ fw_U := fw_inU (i := 1476) (by decide +kernel) (by decide +kernel)
theorem m_1473 : (Cond.methodLink RL 281 yX10_lostShare) ∈ fw_U := fw_inU (i := 1473) (by decide +kernel) (by decide +kernel)
theorem m_1474 : (Cond.instanceMethod yX10_lostShare) ∈ fw_U := fw_inU (i := 1474) (by decide +kernel) (by decide +kernel)
theorem m_1475 : (Cond.selects RX10 yX10_lostShare yX10_lostShare) ∈ fw_U := fw_inU (i := 1475) (by decide +kernel) (by decide +kernel)
theorem m_240 : (Cond.code yX9_isConsistent cX9_isConsistent 1 (some .boolean)) ∈ fw_U := fw_inU (i := 240) (by decide +kernel) (by decide +kernel)
theorem m_237 : (Cond.methodLink RL 282 yX9_isConsistent) ∈ fw_U := fw_inU (i := 237) (by decide +kernel) (by decide +kernel)
theorem m_238 : (Cond.instanceMethod yX9_isConsistent) ∈ fw_U := fw_inU (i := 238) (by decide +kernel) (by decide +kernel)
theorem m_239 : (Cond.selects RX9 yX9_isConsistent yX9_isConsistent) ∈ fw_U := fw_inU (i := 239) (by decide +kernel) (by decide +kernel)
theorem m_1480 : (Cond.code yX10_isConsistent cX10_isConsistent 1 (some .boolean)) ∈ fw_U := fw_inU (i := 1480) (by decide +kernel) (by decide +kernel)
theorem m_1477 : (Cond.methodLink RL 286 yX10_isConsistent) ∈ fw_U := fw_inU (i := 1477) (by decide +kernel) (by decide +kernel)
theorem m_1478 : (Cond.instanceMethod yX10_isConsistent) ∈ fw_U := fw_inU (i := 1478) (by decide +kernel) (by decide +kernel)
theorem m_1479 : (Cond.selects RX10 yX10_isConsistent yX10_isConsistent) ∈ fw_U := fw_inU (i := 1479) (by decide +kernel) (by decide +kernel)
theorem m_910 : (Cond.methodLink RL 287 yL_feed) ∈ fw_U := fw_inU (i := 910) (by decide +kernel) (by decide +kernel)
theorem m_911 : (Cond.static yL_feed) ∈ fw_U := fw_inU (i := 911) (by decide +kernel) (by decide +kernel)
theorem m_1484 : (Cond.code yX10_feed cX10_feed 2 (some .int)) ∈ fw_U := fw_inU (i := 1484) (by decide +kernel) (by decide +kernel)
theorem m_1481 : (Cond.methodLink RL 290 yX10_feed) ∈ fw_U := fw_inU (i := 1481) (by decide +kernel) (by decide +kernel)
theorem m_1482 : (Cond.instanceMethod yX10_feed) ∈ fw_U := fw_inU (i := 1482) (by decide +kernel) (by decide +kernel)
theorem m_1483 : (Cond.selects RX10 yX10_feed yX10_feed) ∈ fw_U := fw_inU (i := 1483) (by decide +kernel) (by decide +kernel)
theorem m_922 : (Cond.methodLink RL 291 yL_runCommands) ∈ fw_U := fw_inU (i := 922) (by decide +kernel) (by decide +kernel)
theorem m_923 : (Cond.static yL_runCommands) ∈ fw_U := fw_inU (i := 923) (by decide +kernel) (by decide +kernel)
theorem m_1488 : (Cond.code yX10_runCommands cX10_runCommands 3 (some .int)) ∈ fw_U := fw_inU (i := 1488) (by decide +kernel) (by decide +kernel)
theorem m_1485 : (Cond.methodLink RL 294 yX10_runCommands) ∈ fw_U := fw_inU (i := 1485) (by decide +kernel) (by decide +kernel)
theorem m_1486 : (Cond.instanceMethod yX10_runCommands) ∈ fw_U := fw_inU (i := 1486) (by decide +kernel) (by decide +kernel)
theorem m_1487 : (Cond.selects RX10 yX10_runCommands yX10_runCommands) ∈ fw_U := fw_inU (i := 1487) (by decide +kernel) (by decide +kernel)
theorem m_1043 : (Cond.methodLink RL 295 yL_errorPosition) ∈ fw_U := fw_inU (i := 1043) (by decide +kernel) (by decide +kernel)
theorem m_1044 : (Cond.static yL_errorPosition) ∈ fw_U := fw_inU (i := 1044) (by decide +kernel) (by decide +kernel)
theorem m_1524 : (Cond.code yX10_errorPosition cX10_errorPosition 1 (some .int)) ∈ fw_U := fw_inU (i := 1524) (by decide +kernel) (by decide +kernel)
theorem m_1521 : (Cond.methodLink RL 297 yX10_errorPosition) ∈ fw_U := fw_inU (i := 1521) (by decide +kernel) (by decide +kernel)
theorem m_1522 : (Cond.instanceMethod yX10_errorPosition) ∈ fw_U := fw_inU (i := 1522) (by decide +kernel) (by decide +kernel)
theorem m_1523 : (Cond.selects RX10 yX10_errorPosition yX10_errorPosition) ∈ fw_U := fw_inU (i := 1523) (by decide +kernel) (by decide +kernel)
theorem m_1051 : (Cond.methodLink RL 298 yL_failedCommand) ∈ fw_U := fw_inU (i := 1051) (by decide +kernel) (by decide +kernel)
theorem m_1052 : (Cond.static yL_failedCommand) ∈ fw_U := fw_inU (i := 1052) (by decide +kernel) (by decide +kernel)
theorem m_1528 : (Cond.code yX10_failedCommand cX10_failedCommand 1 (some .int)) ∈ fw_U := fw_inU (i := 1528) (by decide +kernel) (by decide +kernel)
theorem m_1525 : (Cond.methodLink RL 300 yX10_failedCommand) ∈ fw_U := fw_inU (i := 1525) (by decide +kernel) (by decide +kernel)
theorem m_1526 : (Cond.instanceMethod yX10_failedCommand) ∈ fw_U := fw_inU (i := 1526) (by decide +kernel) (by decide +kernel)
theorem m_1527 : (Cond.selects RX10 yX10_failedCommand yX10_failedCommand) ∈ fw_U := fw_inU (i := 1527) (by decide +kernel) (by decide +kernel)
theorem m_1059 : (Cond.methodLink RL 301 yL_writeBag) ∈ fw_U := fw_inU (i := 1059) (by decide +kernel) (by decide +kernel)
theorem m_1060 : (Cond.static yL_writeBag) ∈ fw_U := fw_inU (i := 1060) (by decide +kernel) (by decide +kernel)
theorem m_1532 : (Cond.code yX10_writeBag cX10_writeBag 4 (some .int)) ∈ fw_U := fw_inU (i := 1532) (by decide +kernel) (by decide +kernel)
theorem m_1529 : (Cond.methodLink RL 303 yX10_writeBag) ∈ fw_U := fw_inU (i := 1529) (by decide +kernel) (by decide +kernel)
theorem m_1530 : (Cond.instanceMethod yX10_writeBag) ∈ fw_U := fw_inU (i := 1530) (by decide +kernel) (by decide +kernel)
theorem m_1531 : (Cond.selects RX10 yX10_writeBag yX10_writeBag) ∈ fw_U := fw_inU (i := 1531) (by decide +kernel) (by decide +kernel)
theorem m_1079 : (Cond.methodLink RL 304 yL_outputChar) ∈ fw_U := fw_inU (i := 1079) (by decide +kernel) (by decide +kernel)
theorem m_1080 : (Cond.static yL_outputChar) ∈ fw_U := fw_inU (i := 1080) (by decide +kernel) (by decide +kernel)
theorem m_1540 : (Cond.code yX10_outputChar cX10_outputChar 2 (some .char)) ∈ fw_U := fw_inU (i := 1540) (by decide +kernel) (by decide +kernel)
theorem m_1537 : (Cond.methodLink RL 306 yX10_outputChar) ∈ fw_U := fw_inU (i := 1537) (by decide +kernel) (by decide +kernel)
theorem m_1538 : (Cond.instanceMethod yX10_outputChar) ∈ fw_U := fw_inU (i := 1538) (by decide +kernel) (by decide +kernel)
theorem m_1539 : (Cond.selects RX10 yX10_outputChar yX10_outputChar) ∈ fw_U := fw_inU (i := 1539) (by decide +kernel) (by decide +kernel)
theorem m_330 : (Cond.code yX9_undoCount cX9_undoCount 1 (some .int)) ∈ fw_U := fw_inU (i := 330) (by decide +kernel) (by decide +kernel)
theorem m_327 : (Cond.methodLink RL 307 yX9_undoCount) ∈ fw_U := fw_inU (i := 327) (by decide +kernel) (by decide +kernel)
theorem m_328 : (Cond.instanceMethod yX9_undoCount) ∈ fw_U := fw_inU (i := 328) (by decide +kernel) (by decide +kernel)
theorem m_329 : (Cond.selects RX9 yX9_undoCount yX9_undoCount) ∈ fw_U := fw_inU (i := 329) (by decide +kernel) (by decide +kernel)
theorem m_1544 : (Cond.code yX10_undoCount cX10_undoCount 1 (some .int)) ∈ fw_U := fw_inU (i := 1544) (by decide +kernel) (by decide +kernel)
theorem m_1541 : (Cond.methodLink RL 310 yX10_undoCount) ∈ fw_U := fw_inU (i := 1541) (by decide +kernel) (by decide +kernel)
theorem m_1542 : (Cond.instanceMethod yX10_undoCount) ∈ fw_U := fw_inU (i := 1542) (by decide +kernel) (by decide +kernel)
theorem m_1543 : (Cond.selects RX10 yX10_undoCount yX10_undoCount) ∈ fw_U := fw_inU (i := 1543) (by decide +kernel) (by decide +kernel)
theorem m_1087 : (Cond.methodLink RL 311 yL_undo) ∈ fw_U := fw_inU (i := 1087) (by decide +kernel) (by decide +kernel)
theorem m_1088 : (Cond.static yL_undo) ∈ fw_U := fw_inU (i := 1088) (by decide +kernel) (by decide +kernel)
theorem m_1548 : (Cond.code yX10_undo cX10_undo 2 (some .int)) ∈ fw_U := fw_inU (i := 1548) (by decide +kernel) (by decide +kernel)
theorem m_1545 : (Cond.methodLink RL 313 yX10_undo) ∈ fw_U := fw_inU (i := 1545) (by decide +kernel) (by decide +kernel)
theorem m_1546 : (Cond.instanceMethod yX10_undo) ∈ fw_U := fw_inU (i := 1546) (by decide +kernel) (by decide +kernel)
theorem m_1547 : (Cond.selects RX10 yX10_undo yX10_undo) ∈ fw_U := fw_inU (i := 1547) (by decide +kernel) (by decide +kernel)
theorem m_334 : (Cond.code yX9_save cX9_save 1 (some .int)) ∈ fw_U := fw_inU (i := 334) (by decide +kernel) (by decide +kernel)
theorem m_331 : (Cond.methodLink RL 314 yX9_save) ∈ fw_U := fw_inU (i := 331) (by decide +kernel) (by decide +kernel)
theorem m_332 : (Cond.instanceMethod yX9_save) ∈ fw_U := fw_inU (i := 332) (by decide +kernel) (by decide +kernel)
theorem m_333 : (Cond.selects RX9 yX9_save yX9_save) ∈ fw_U := fw_inU (i := 333) (by decide +kernel) (by decide +kernel)
theorem m_1552 : (Cond.code yX10_save cX10_save 2 (some .int)) ∈ fw_U := fw_inU (i := 1552) (by decide +kernel) (by decide +kernel)
theorem m_1549 : (Cond.methodLink RL 317 yX10_save) ∈ fw_U := fw_inU (i := 1549) (by decide +kernel) (by decide +kernel)
theorem m_1550 : (Cond.instanceMethod yX10_save) ∈ fw_U := fw_inU (i := 1550) (by decide +kernel) (by decide +kernel)
theorem m_1551 : (Cond.selects RX10 yX10_save yX10_save) ∈ fw_U := fw_inU (i := 1551) (by decide +kernel) (by decide +kernel)
theorem m_1099 : (Cond.methodLink RL 318 yL_restore) ∈ fw_U := fw_inU (i := 1099) (by decide +kernel) (by decide +kernel)
theorem m_1100 : (Cond.static yL_restore) ∈ fw_U := fw_inU (i := 1100) (by decide +kernel) (by decide +kernel)
theorem m_1556 : (Cond.code yX10_restore cX10_restore 2 (some .int)) ∈ fw_U := fw_inU (i := 1556) (by decide +kernel) (by decide +kernel)
theorem m_1553 : (Cond.methodLink RL 320 yX10_restore) ∈ fw_U := fw_inU (i := 1553) (by decide +kernel) (by decide +kernel)
theorem m_1554 : (Cond.instanceMethod yX10_restore) ∈ fw_U := fw_inU (i := 1554) (by decide +kernel) (by decide +kernel)
theorem m_1555 : (Cond.selects RX10 yX10_restore yX10_restore) ∈ fw_U := fw_inU (i := 1555) (by decide +kernel) (by decide +kernel)
def f_L_bring (μ : fw_M) (o : Int64) (d : UInt64) (x1 : Int32) (x2 : Int32) (x3 : Int32) (x4 : Int32) : Option (fw_M × Int64 × UInt64 × Int32) :=
  fw_b3 (f_X9_bring μ x1 x2 x3 x4) (fun μ1 r1 k1 =>
  if k1 = 0 then
    some (μ1, r1.toInt64, d, (0 : Int32))
  else
    if k1 = 1 then
      some (μ1, o, d, (1 : Int32))
    else
      if k1 = 2 then
        some (μ1, o, d, (2 : Int32))
      else
        if k1 = 3 then
          some (μ1, o, d, (3 : Int32))
        else
          none)
def f_L_load (μ : fw_M) (o : Int64) (d : UInt64) (x1 : Int32) (x2 : Int32) : Option (fw_M × Int64 × UInt64 × Int32) :=
  fw_b3 (f_X9_load μ x1 x2) (fun μ1 r1 k1 =>
  if k1 = 0 then
    some (μ1, r1.toInt64, d, (0 : Int32))
  else
    if k1 = 1 then
      some (μ1, o, d, (1 : Int32))
    else
      if k1 = 4 then
        some (μ1, o, d, (2 : Int32))
      else
        if k1 = 3 then
          some (μ1, o, d, (3 : Int32))
        else
          none)
def f_L_takeOut (μ : fw_M) (o : Int64) (d : UInt64) (x1 : Int32) : Option (fw_M × Int64 × UInt64 × Int32) :=
  fw_b3 (f_X9_takeOut μ x1) (fun μ1 r1 k1 =>
  if k1 = 0 then
    some (μ1, r1.toInt64, d, (0 : Int32))
  else
    if k1 = 1 then
      some (μ1, o, d, (1 : Int32))
    else
      if k1 = 4 then
        some (μ1, o, d, (2 : Int32))
      else
        none)
def f_L_setTemperature (μ : fw_M) (o : Int64) (d : UInt64) (x1 : Int32) (x2 : Int32) : Option (fw_M × Int64 × UInt64 × Int32) :=
  fw_b3 (f_X9_setTemperature μ x1 x2) (fun μ1 r1 k1 =>
  if k1 = 0 then
    fw_g (fw_f64 (FP.f2d r1)) (
    some (μ1, o, (FP.f2d r1), (0 : Int32)))
  else
    if k1 = 1 then
      some (μ1, o, d, (1 : Int32))
    else
      if k1 = 2 then
        some (μ1, o, d, (2 : Int32))
      else
        none)
def f_L_run (μ : fw_M) (o : Int64) (d : UInt64) (x1 : Int32) : Option (fw_M × Int64 × UInt64 × Int32) :=
  fw_b3 (f_X9_run μ x1) (fun μ1 r1 k1 =>
  if k1 = 0 then
    some (μ1, r1.toInt64, d, (0 : Int32))
  else
    if k1 = 1 then
      some (μ1, o, d, (1 : Int32))
    else
      if k1 = 3 then
        some (μ1, o, d, (2 : Int32))
      else
        none)
def f_L_client (μ : fw_M) (o : Int64) (d : UInt64) (x1 : Int32) : Option (fw_M × Int64 × UInt64 × Int32) :=
  fw_b3 (f_X9_client μ x1) (fun μ1 r1 k1 =>
  if k1 = 0 then
    some (μ1, r1.toInt64, d, (0 : Int32))
  else
    if k1 = 1 then
      some (μ1, o, d, (1 : Int32))
    else
      none)
def f_L_isSock (μ : fw_M) (o : Int64) (d : UInt64) (x1 : Int32) : Option (fw_M × Int64 × UInt64 × Int32) :=
  fw_b3 (f_X9_isSock μ x1) (fun μ1 r1 k1 =>
  if k1 = 0 then
    if r1 = 0 then
      some (μ1, (0 : Int64), d, (0 : Int32))
    else
      some (μ1, (1 : Int64), d, (0 : Int32))
  else
    if k1 = 1 then
      some (μ1, o, d, (1 : Int32))
    else
      none)
def f_L_colour (μ : fw_M) (o : Int64) (d : UInt64) (x1 : Int32) : Option (fw_M × Int64 × UInt64 × Int32) :=
  fw_b3 (f_X9_colour μ x1) (fun μ1 r1 k1 =>
  if k1 = 0 then
    some (μ1, r1.toInt64, d, (0 : Int32))
  else
    if k1 = 1 then
      some (μ1, o, d, (1 : Int32))
    else
      none)
def f_L_stains (μ : fw_M) (o : Int64) (d : UInt64) (x1 : Int32) : Option (fw_M × Int64 × UInt64 × Int32) :=
  fw_b3 (f_X9_stains μ x1) (fun μ1 r1 k1 =>
  if k1 = 0 then
    some (μ1, r1.toInt64, d, (0 : Int32))
  else
    if k1 = 1 then
      some (μ1, o, d, (1 : Int32))
    else
      none)
def f_L_stainCount (μ : fw_M) (o : Int64) (d : UInt64) (x1 : Int32) : Option (fw_M × Int64 × UInt64 × Int32) :=
  fw_b3 (f_X9_stainCount μ x1) (fun μ1 r1 k1 =>
  if k1 = 0 then
    some (μ1, r1.toInt64, d, (0 : Int32))
  else
    if k1 = 1 then
      some (μ1, o, d, (1 : Int32))
    else
      none)
def f_L_place (μ : fw_M) (o : Int64) (d : UInt64) (x1 : Int32) : Option (fw_M × Int64 × UInt64 × Int32) :=
  fw_b3 (f_X9_place μ x1) (fun μ1 r1 k1 =>
  if k1 = 0 then
    some (μ1, r1.toInt64, d, (0 : Int32))
  else
    if k1 = 1 then
      some (μ1, o, d, (1 : Int32))
    else
      none)
def f_L_washes (μ : fw_M) (o : Int64) (d : UInt64) (x1 : Int32) : Option (fw_M × Int64 × UInt64 × Int32) :=
  fw_b3 (f_X9_washes μ x1) (fun μ1 r1 k1 =>
  if k1 = 0 then
    some (μ1, r1.toInt64, d, (0 : Int32))
  else
    if k1 = 1 then
      some (μ1, o, d, (1 : Int32))
    else
      none)
def f_L_partner (μ : fw_M) (o : Int64) (d : UInt64) (x1 : Int32) : Option (fw_M × Int64 × UInt64 × Int32) :=
  fw_b3 (f_X9_partner μ x1) (fun μ1 r1 k1 =>
  if k1 = 0 then
    some (μ1, r1.toInt64, d, (0 : Int32))
  else
    if k1 = 1 then
      some (μ1, o, d, (1 : Int32))
    else
      if k1 = 4 then
        some (μ1, o, d, (2 : Int32))
      else
        if k1 = 5 then
          some (μ1, o, d, (3 : Int32))
        else
          none)
def f_L_pairCount (μ : fw_M) (o : Int64) (d : UInt64) (x1 : Int32) : Option (fw_M × Int64 × UInt64 × Int32) :=
  fw_b3 (f_X9_pairCount μ x1) (fun μ1 r1 k1 =>
  if k1 = 0 then
    some (μ1, r1.toInt64, d, (0 : Int32))
  else
    if k1 = 1 then
      some (μ1, o, d, (1 : Int32))
    else
      none)
def f_L_pairCountByParity (μ : fw_M) (o : Int64) (d : UInt64) (x1 : Int32) : Option (fw_M × Int64 × UInt64 × Int32) :=
  fw_b3 (f_X9_pairCountByParity μ x1) (fun μ1 r1 k1 =>
  if k1 = 0 then
    some (μ1, r1.toInt64, d, (0 : Int32))
  else
    if k1 = 1 then
      some (μ1, o, d, (1 : Int32))
    else
      none)
def f_L_inBag (μ : fw_M) (o : Int64) (d : UInt64) (x1 : Int32) : Option (fw_M × Int64 × UInt64 × Int32) :=
  fw_b3 (f_X9_inBag μ x1) (fun μ1 r1 k1 =>
  if k1 = 0 then
    some (μ1, r1.toInt64, d, (0 : Int32))
  else
    if k1 = 1 then
      some (μ1, o, d, (1 : Int32))
    else
      none)
def f_L_inMachine (μ : fw_M) (o : Int64) (d : UInt64) (x1 : Int32) : Option (fw_M × Int64 × UInt64 × Int32) :=
  fw_b3 (f_X9_inMachine μ x1) (fun μ1 r1 k1 =>
  if k1 = 0 then
    some (μ1, r1.toInt64, d, (0 : Int32))
  else
    if k1 = 1 then
      some (μ1, o, d, (1 : Int32))
    else
      none)
def f_L_temperature (μ : fw_M) (o : Int64) (d : UInt64) (x1 : Int32) : Option (fw_M × Int64 × UInt64 × Int32) :=
  fw_b3 (f_X9_temperature μ x1) (fun μ1 r1 k1 =>
  if k1 = 0 then
    fw_g (fw_f64 (FP.f2d r1)) (
    some (μ1, o, (FP.f2d r1), (0 : Int32)))
  else
    if k1 = 1 then
      some (μ1, o, d, (1 : Int32))
    else
      none)
def f_L_temperatureBits (μ : fw_M) (o : Int64) (d : UInt64) (x1 : Int32) : Option (fw_M × Int64 × UInt64 × Int32) :=
  fw_b3 (f_X9_temperatureBits μ x1) (fun μ1 r1 k1 =>
  if k1 = 0 then
    some (μ1, r1.toInt64, d, (0 : Int32))
  else
    if k1 = 1 then
      some (μ1, o, d, (1 : Int32))
    else
      none)
def f_L_washableStains (μ : fw_M) (o : Int64) (d : UInt64) (x1 : Int32) : Option (fw_M × Int64 × UInt64 × Int32) :=
  fw_b3 (f_X9_washableStains μ x1) (fun μ1 r1 k1 =>
  if k1 = 0 then
    some (μ1, r1.toInt64, d, (0 : Int32))
  else
    if k1 = 1 then
      some (μ1, o, d, (1 : Int32))
    else
      none)
def f_L_commonStains (μ : fw_M) (o : Int64) (d : UInt64) (x1 : Int32) : Option (fw_M × Int64 × UInt64 × Int32) :=
  fw_b3 (f_X9_commonStains μ x1) (fun μ1 r1 k1 =>
  if k1 = 0 then
    some (μ1, r1.toInt64, d, (0 : Int32))
  else
    if k1 = 1 then
      some (μ1, o, d, (1 : Int32))
    else
      none)
def f_L_coloursIn (μ : fw_M) (o : Int64) (d : UInt64) (x1 : Int32) : Option (fw_M × Int64 × UInt64 × Int32) :=
  fw_b3 (f_X9_coloursIn μ x1) (fun μ1 r1 k1 =>
  if k1 = 0 then
    some (μ1, r1.toInt64, d, (0 : Int32))
  else
    if k1 = 1 then
      some (μ1, o, d, (1 : Int32))
    else
      none)
def f_L_damage (μ : fw_M) (o : Int64) (d : UInt64) (x1 : Int32) : Option (fw_M × Int64 × UInt64 × Int32) :=
  fw_b3 (f_X9_damage μ x1) (fun μ1 r1 k1 =>
  if k1 = 0 then
    some (μ1, r1.toInt64, d, (0 : Int32))
  else
    if k1 = 1 then
      some (μ1, o, d, (1 : Int32))
    else
      none)
def f_L_damageByMasks (μ : fw_M) (o : Int64) (d : UInt64) (x1 : Int32) : Option (fw_M × Int64 × UInt64 × Int32) :=
  fw_b3 (f_X9_damageByMasks μ x1) (fun μ1 r1 k1 =>
  if k1 = 0 then
    some (μ1, r1.toInt64, d, (0 : Int32))
  else
    if k1 = 1 then
      some (μ1, o, d, (1 : Int32))
    else
      none)
def f_L_bestTemperature (μ : fw_M) (o : Int64) (d : UInt64) (x1 : Int32) : Option (fw_M × Int64 × UInt64 × Int32) :=
  fw_b3 (f_X9_bestTemperature μ x1) (fun μ1 r1 k1 =>
  if k1 = 0 then
    some (μ1, r1.toInt64, d, (0 : Int32))
  else
    if k1 = 1 then
      some (μ1, o, d, (1 : Int32))
    else
      if k1 = 3 then
        some (μ1, o, d, (2 : Int32))
      else
        none)
def f_L_price (μ : fw_M) (o : Int64) (d : UInt64) (x1 : Int32) (x2 : Int32) : Option (fw_M × Int64 × UInt64 × Int32) :=
  fw_b3 (f_X9_price μ x1 x2) (fun μ1 r1 k1 =>
  if k1 = 0 then
    fw_g (fw_f64 (FP.f2d r1)) (
    some (μ1, o, (FP.f2d r1), (0 : Int32)))
  else
    if k1 = 1 then
      some (μ1, o, d, (1 : Int32))
    else
      none)
def f_L_paid (μ : fw_M) (o : Int64) (d : UInt64) (x1 : Int32) : Option (fw_M × Int64 × UInt64 × Int32) :=
  fw_b3 (f_X9_paid μ x1) (fun μ1 r1 k1 =>
  if k1 = 0 then
    fw_g (fw_f64 (FP.f2d r1)) (
    some (μ1, o, (FP.f2d r1), (0 : Int32)))
  else
    if k1 = 1 then
      some (μ1, o, d, (1 : Int32))
    else
      none)
def f_L_paidBits (μ : fw_M) (o : Int64) (d : UInt64) (x1 : Int32) : Option (fw_M × Int64 × UInt64 × Int32) :=
  fw_b3 (f_X9_paidBits μ x1) (fun μ1 r1 k1 =>
  if k1 = 0 then
    some (μ1, r1.toInt64, d, (0 : Int32))
  else
    if k1 = 1 then
      some (μ1, o, d, (1 : Int32))
    else
      none)
def f_L_packed (μ : fw_M) (o : Int64) (d : UInt64) (x1 : Int32) : Option (fw_M × Int64 × UInt64 × Int32) :=
  fw_b3 (f_X9_packed μ x1) (fun μ1 r1 k1 =>
  if k1 = 0 then
    some (μ1, r1, d, (0 : Int32))
  else
    if k1 = 1 then
      some (μ1, o, d, (1 : Int32))
    else
      none)
def f_L_dirtiest (μ : fw_M) (o : Int64) (d : UInt64) (x1 : Int32) : Option (fw_M × Int64 × UInt64 × Int32) :=
  fw_b3 (f_X9_dirtiest μ x1) (fun μ1 r1 k1 =>
  if k1 = 0 then
    some (μ1, r1.toInt64, d, (0 : Int32))
  else
    if k1 = 5 then
      some (μ1, o, d, (1 : Int32))
    else
      none)
def f_L_spender (μ : fw_M) (o : Int64) (d : UInt64) (x1 : Int32) : Option (fw_M × Int64 × UInt64 × Int32) :=
  fw_b3 (f_X9_spender μ x1) (fun μ1 r1 k1 =>
  if k1 = 0 then
    some (μ1, r1.toInt64, d, (0 : Int32))
  else
    if k1 = 5 then
      some (μ1, o, d, (1 : Int32))
    else
      none)
def f_L_meanStains (μ : fw_M) (o : Int64) (d : UInt64)  : Option (fw_M × Int64 × UInt64 × Int32) :=
  fw_b3 (f_X9_meanStains μ) (fun μ1 r1 k1 =>
  if k1 = 0 then
    some (μ1, o, r1, (0 : Int32))
  else
    if k1 = 6 then
      some (μ1, o, d, (1 : Int32))
    else
      none)
def f_L_lostShare (μ : fw_M) (o : Int64) (d : UInt64)  : Option (fw_M × Int64 × UInt64 × Int32) :=
  fw_b3 (f_X9_lostShare μ) (fun μ1 r1 k1 =>
  if k1 = 0 then
    fw_g (fw_f64 (FP.f2d r1)) (
    some (μ1, o, (FP.f2d r1), (0 : Int32)))
  else
    if k1 = 6 then
      some (μ1, o, d, (1 : Int32))
    else
      none)
def f_L_feed (μ : fw_M) (o : Int64) (d : UInt64) (x1 : Int32) : Option (fw_M × Int64 × UInt64 × Int32) :=
  fw_b3 (f_X9_feed μ x1) (fun μ1 r1 k1 =>
  if k1 = 0 then
    some (μ1, r1.toInt64, d, (0 : Int32))
  else
    if k1 = 3 then
      some (μ1, o, d, (1 : Int32))
    else
      none)
def f_L_runCommands (μ : fw_M) (o : Int64) (d : UInt64)  : Option (fw_M × Int64 × UInt64 × Int32) :=
  fw_b3 (f_X9_runCommands μ) (fun μ1 r1 k1 =>
  if k1 = 0 then
    some (μ1, r1.toInt64, d, (0 : Int32))
  else
    if k1 = 2 then
      some (μ1, o, d, (1 : Int32))
    else
      if k1 = 4 then
        some (μ1, o, d, (2 : Int32))
      else
        none)
def f_L_errorPosition (μ : fw_M) (o : Int64) (d : UInt64)  : Option (fw_M × Int64 × UInt64 × Int32) :=
  fw_b3 (f_X9_errorPosition μ) (fun μ1 r1 k1 =>
  if k1 = 0 then
    some (μ1, r1.toInt64, d, (0 : Int32))
  else
    if k1 = 5 then
      some (μ1, o, d, (1 : Int32))
    else
      none)
def f_L_failedCommand (μ : fw_M) (o : Int64) (d : UInt64)  : Option (fw_M × Int64 × UInt64 × Int32) :=
  fw_b3 (f_X9_failedCommand μ) (fun μ1 r1 k1 =>
  if k1 = 0 then
    some (μ1, r1.toInt64, d, (0 : Int32))
  else
    if k1 = 5 then
      some (μ1, o, d, (1 : Int32))
    else
      none)
def f_L_writeBag (μ : fw_M) (o : Int64) (d : UInt64) (x1 : Int32) : Option (fw_M × Int64 × UInt64 × Int32) :=
  fw_b3 (f_X9_writeBag μ x1) (fun μ1 r1 k1 =>
  if k1 = 0 then
    some (μ1, r1.toInt64, d, (0 : Int32))
  else
    if k1 = 1 then
      some (μ1, o, d, (1 : Int32))
    else
      none)
def f_L_outputChar (μ : fw_M) (o : Int64) (d : UInt64) (x1 : Int32) : Option (fw_M × Int64 × UInt64 × Int32) :=
  fw_b3 (f_X9_outputChar μ x1) (fun μ1 r1 k1 =>
  if k1 = 0 then
    some (μ1, r1.toInt64, d, (0 : Int32))
  else
    if k1 = 1 then
      some (μ1, o, d, (1 : Int32))
    else
      none)
def f_L_undo (μ : fw_M) (o : Int64) (d : UInt64)  : Option (fw_M × Int64 × UInt64 × Int32) :=
  fw_b3 (f_X9_undo μ) (fun μ1 r1 k1 =>
  if k1 = 0 then
    some (μ1, r1.toInt64, d, (0 : Int32))
  else
    if k1 = 3 then
      some (μ1, o, d, (1 : Int32))
    else
      none)
def f_L_restore (μ : fw_M) (o : Int64) (d : UInt64)  : Option (fw_M × Int64 × UInt64 × Int32) :=
  fw_b3 (f_X9_restore μ) (fun μ1 r1 k1 =>
  if k1 = 0 then
    some (μ1, r1.toInt64, d, (0 : Int32))
  else
    if k1 = 3 then
      some (μ1, o, d, (1 : Int32))
    else
      none)
set_option maxHeartbeats 4000000 in
set_option maxRecDepth 100000 in
theorem k_L_bring (l : Launch) (hst : l.stackTraces = false) {E : fw_E} {o o' : Int64} {d d' : UInt64} (hE : fw_ok E) {μ μ' : fw_M} (x1 : Int32) (x2 : Int32) (x3 : Int32) (x4 : Int32) {r : Int32} (h : f_L_bring μ o d x1 x2 x3 x4 = some (μ', o', d', r)) : Met l yL_bring (Cond.codeWith yL_bring cL_bring 7 (some .int) [(0, 14, 17, 13), (0, 14, 21, 15), (0, 14, 25, 17)] :: fw_U) ({ frames := 8, cells := 1, slots := 6, locals := 134 } : Room) (va_Pc [.ref (fw_ad E 0 10), .int x1, .int x2, .int x3, .int x4, .ref (fw_ad E 0 27)] (fun U => fw_Pre E o d μ U ∧ fw_S2 U)) (fw_Q E o' d' (some (.int r)) μ') 1 6 (fw_A E) := by
  refine va_MetW (cc := cL_bring) (maxL := 7) (ret := some .int) (by decide) rfl ?_
  intro p e s m args below meth c s₁ B hml hv
  obtain ⟨ha, ⟨hK, hP, hSt⟩, hN2⟩ := hv
  have hx := B.exec
  have hb := B.bytes
  have hr := B.returns
  have hts := atoms_spec (ws := (Cond.codeWith yL_bring cL_bring 7 (some .int) [(0, 14, 17, 13), (0, 14, 21, 15), (0, 14, 25, 17)] :: fw_U)) B.pre
  have hU : ∀ w ∈ fw_U, w.before args s = true := fun w hw => hts w (List.mem_cons_of_mem _ hw)
  have htab : c.exceptionTable.toList = [⟨0, 14, 17, 13⟩, ⟨0, 14, 21, 15⟩, ⟨0, 14, 25, 17⟩] := vx_table (x := yL_bring) B (hts _ List.mem_cons_self)
  have hown : s.vm.findClass RL = some m.cls := findClass_of_methodNamed B.named
  have hlocks := B.notSynchronized
  have EN : ∀ (H : Heap) (locs : List Loc) (ls : Array Slot), fw_P E o d μ H → va_S (fw_A E) s.heap H locs → lv_has ls 7 [(0, .ref (fw_ad E 0 10)), (1, .int x1), (2, .int x2), (3, .int x3), (4, .int x4), (5, .ref (fw_ad E 0 27))] → W p l e (headSpec (Cond.codeWith yL_bring cL_bring 7 (some .int) [(0, 14, 17, 13), (0, 14, 21, 15), (0, 14, 25, 17)] :: fw_U) ({ frames := 8, cells := 1, slots := 6, locals := 134 } : Room)).room s m args below meth c H locs 0 0 (MQ below (fw_Q E o' d' (some (.int r)) μ') args s 1 6 (fw_A E)) (F0 m 0 ls []) := by
    intro H locs ls hP hS hl
    unfold f_L_bring at h
    refine lv_aload hx hb dL_bring_0 (lv_at hl 5 rfl) ?_
    refine lv_iconst (v := (0 : Int32)) hx hb dL_bring_2 (by decide) ?_
    refine lv_aload_n hx hb dL_bring_3 rfl (lv_at hl 0 rfl) ?_
    refine lv_iload_n hx hb dL_bring_4 rfl (lv_at hl 1 rfl) ?_
    refine lv_iload_n hx hb dL_bring_5 rfl (lv_at hl 2 rfl) ?_
    refine lv_iload_n hx hb dL_bring_6 rfl (lv_at hl 3 rfl) ?_
    refine lv_iload hx hb dL_bring_7 (lv_at hl 4 rfl) ?_
    obtain ⟨μ1, r1, k1, hc1, h⟩ := fw_b3_e h
    refine fw_xret (vx_runV (As := [.int x1, .int x2, .int x3, .int x4]) (rest := [.int (0 : Int32), .ref (fw_ad E 0 27)]) ⟨hx, hb, hml, hown, hU⟩ (k_X9_bring l hst hE x1 x2 x3 x4 hc1) (cwV 4 hU (fw_gV m_420 m_421 m_422 m_1 m_423) rfl rfl rfl (by decide +kernel) ⟨(Nat.le_of_ble_eq_true rfl), (Nat.le_of_ble_eq_true rfl)⟩) ⟨fw_blind, fw_recv hK hP (fw_V0 (f := 10) (by decide) (by decide)) rfl rfl, fun U hU9 hW9 => ⟨rfl, fw_pre hK hP hSt hS U hU9 hW9⟩⟩ rfl rfl hl.1 rfl (lv_room (Nat.le_of_ble_eq_true rfl)) dL_bring_9 ⟨(Nat.le_of_ble_eq_true rfl), (Nat.le_of_ble_eq_true rfl)⟩) hS (fun hk1 H locs hP hS => ?_) (fun hk1 H locs q ce hP hS hce hcv hcl => ?_)
    · rw [if_pos hk1] at h
      refine lv_i2l (v := r1.toInt64) hx hb dL_bring_12 rfl ?_
      refine fw_last hx hb hK hP hE hS dL_bring_13 (fun H locs hP hS => ?_)
      refine lv_goto (tgt := 29) hx hb dL_bring_14 (by decide) ?_
      refine lv_iconst (v := (0 : Int32)) hx hb dL_bring_29 (by decide) ?_
      refine W.widen (k := 1) (n := 6) (Nat.le_of_ble_eq_true rfl) (Nat.le_of_ble_eq_true rfl) ?_
      exact W.iret (v := (0 : Int32)) hx hb hr (fw_el h hP hS) hS.2.2 dL_bring_30
    · rw [if_neg hk1] at h
      by_cases e1_0 : k1 = 1
      · rw [if_pos e1_0] at h
        subst e1_0
        refine vx_catch (E := "java/lang/IndexOutOfBoundsException") hown [] ⟨0, 14, 17, 13⟩ [⟨0, 14, 21, 15⟩, ⟨0, 14, 25, 17⟩] htab (fun _ h9 => absurd h9 List.not_mem_nil) (by decide) (by decide) (hU (Cond.classLink RL 13 "java/lang/IndexOutOfBoundsException") m_338) (va_Nw.use rfl (hSt.1.2.1 _ (by decide +kernel))) hce hcv hcl ?_
        refine lv_astore (lv' := [(6, .ref q), (0, .ref (fw_ad E 0 10)), (1, .int x1), (2, .int x2), (3, .int x3), (4, .int x4), (5, .ref (fw_ad E 0 27))]) hx hb dL_bring_17 hl (by decide) rfl (fun ls hl => ?_)
        refine lv_iconst (v := (1 : Int32)) hx hb dL_bring_19 (by decide) ?_
        refine W.widen (k := 1) (n := 6) (Nat.le_of_ble_eq_true rfl) (Nat.le_of_ble_eq_true rfl) ?_
        exact W.iret (v := (1 : Int32)) hx hb hr (fw_el h hP hS) hS.2.2 dL_bring_20
      · rw [if_neg e1_0] at h
        by_cases e1_1 : k1 = 2
        · rw [if_pos e1_1] at h
          subst e1_1
          refine vx_catch (E := "java/lang/IllegalArgumentException") hown [⟨0, 14, 17, 13⟩] ⟨0, 14, 21, 15⟩ [⟨0, 14, 25, 17⟩] htab (fun z h9 => by rw [List.mem_singleton.mp h9]; exact Or.inr ⟨by decide, "java/lang/IndexOutOfBoundsException", (hU (Cond.classLink RL 13 "java/lang/IndexOutOfBoundsException") m_338), hN2 _ (List.mem_of_getElem? (i := 2) rfl)⟩) (by decide) (by decide) (hU (Cond.classLink RL 15 "java/lang/IllegalArgumentException") m_418) (va_Nw.use rfl (hSt.1.2.1 _ (by decide +kernel))) hce hcv hcl ?_
          refine lv_astore (lv' := [(6, .ref q), (0, .ref (fw_ad E 0 10)), (1, .int x1), (2, .int x2), (3, .int x3), (4, .int x4), (5, .ref (fw_ad E 0 27))]) hx hb dL_bring_21 hl (by decide) rfl (fun ls hl => ?_)
          refine lv_iconst (v := (2 : Int32)) hx hb dL_bring_23 (by decide) ?_
          refine W.widen (k := 1) (n := 6) (Nat.le_of_ble_eq_true rfl) (Nat.le_of_ble_eq_true rfl) ?_
          exact W.iret (v := (2 : Int32)) hx hb hr (fw_el h hP hS) hS.2.2 dL_bring_24
        · rw [if_neg e1_1] at h
          by_cases e1_2 : k1 = 3
          · rw [if_pos e1_2] at h
            subst e1_2
            refine vx_catch (E := "java/lang/IllegalStateException") hown [⟨0, 14, 17, 13⟩, ⟨0, 14, 21, 15⟩] ⟨0, 14, 25, 17⟩ [] htab (fun z h9 => by rcases List.mem_cons.mp h9 with rfl | h9; exact Or.inr ⟨by decide, "java/lang/IndexOutOfBoundsException", (hU (Cond.classLink RL 13 "java/lang/IndexOutOfBoundsException") m_338), hN2 _ (List.mem_of_getElem? (i := 0) rfl)⟩; rw [List.mem_singleton.mp h9]; exact Or.inr ⟨by decide, "java/lang/IllegalArgumentException", (hU (Cond.classLink RL 15 "java/lang/IllegalArgumentException") m_418), hN2 _ (List.mem_of_getElem? (i := 1) rfl)⟩) (by decide) (by decide) (hU (Cond.classLink RL 17 "java/lang/IllegalStateException") m_419) (va_Nw.use rfl (hSt.1.2.1 _ (by decide +kernel))) hce hcv hcl ?_
            refine lv_astore (lv' := [(6, .ref q), (0, .ref (fw_ad E 0 10)), (1, .int x1), (2, .int x2), (3, .int x3), (4, .int x4), (5, .ref (fw_ad E 0 27))]) hx hb dL_bring_25 hl (by decide) rfl (fun ls hl => ?_)
            refine lv_iconst (v := (3 : Int32)) hx hb dL_bring_27 (by decide) ?_
            refine W.widen (k := 1) (n := 6) (Nat.le_of_ble_eq_true rfl) (Nat.le_of_ble_eq_true rfl) ?_
            exact W.iret (v := (3 : Int32)) hx hb hr (fw_el h hP hS) hS.2.2 dL_bring_28
          · rw [if_neg e1_2] at h
            cases h
  subst ha
  have hl := lv_entry ([.ref (fw_ad E 0 10), .int x1, .int x2, .int x3, .int x4, .ref (fw_ad E 0 27)]) (n := 7) (Nat.le_of_ble_eq_true rfl)
  rw [lg_entry_eq]
  generalize (lg_sl ([.ref (fw_ad E 0 10), .int x1, .int x2, .int x3, .int x4, .ref (fw_ad E 0 27)]) ++ List.replicate (7 - (lg_sl ([.ref (fw_ad E 0 10), .int x1, .int x2, .int x3, .int x4, .ref (fw_ad E 0 27)])).length) Slot.unset).toArray = ls at hl ⊢
  exact EN s.heap [] ls hP va_S.rf hl
set_option maxHeartbeats 4000000 in
set_option maxRecDepth 100000 in
theorem k_L_load (l : Launch) (hst : l.stackTraces = false) {E : fw_E} {o o' : Int64} {d d' : UInt64} (hE : fw_ok E) {μ μ' : fw_M} (x1 : Int32) (x2 : Int32) {r : Int32} (h : f_L_load μ o d x1 x2 = some (μ', o', d', r)) : Met l yL_load (Cond.codeWith yL_load cL_load 5 (some .int) [(0, 10, 13, 13), (0, 10, 17, 23), (0, 10, 21, 17)] :: fw_U) ({ frames := 8, cells := 1, slots := 6, locals := 132 } : Room) (va_Pc [.ref (fw_ad E 0 10), .int x1, .int x2, .ref (fw_ad E 0 27)] (fun U => fw_Pre E o d μ U ∧ fw_S2 U)) (fw_Q E o' d' (some (.int r)) μ') 1 6 (fw_A E) := by
  refine va_MetW (cc := cL_load) (maxL := 5) (ret := some .int) (by decide) rfl ?_
  intro p e s m args below meth c s₁ B hml hv
  obtain ⟨ha, ⟨hK, hP, hSt⟩, hN2⟩ := hv
  have hx := B.exec
  have hb := B.bytes
  have hr := B.returns
  have hts := atoms_spec (ws := (Cond.codeWith yL_load cL_load 5 (some .int) [(0, 10, 13, 13), (0, 10, 17, 23), (0, 10, 21, 17)] :: fw_U)) B.pre
  have hU : ∀ w ∈ fw_U, w.before args s = true := fun w hw => hts w (List.mem_cons_of_mem _ hw)
  have htab : c.exceptionTable.toList = [⟨0, 10, 13, 13⟩, ⟨0, 10, 17, 23⟩, ⟨0, 10, 21, 17⟩] := vx_table (x := yL_load) B (hts _ List.mem_cons_self)
  have hown : s.vm.findClass RL = some m.cls := findClass_of_methodNamed B.named
  have hlocks := B.notSynchronized
  have EN : ∀ (H : Heap) (locs : List Loc) (ls : Array Slot), fw_P E o d μ H → va_S (fw_A E) s.heap H locs → lv_has ls 5 [(0, .ref (fw_ad E 0 10)), (1, .int x1), (2, .int x2), (3, .ref (fw_ad E 0 27))] → W p l e (headSpec (Cond.codeWith yL_load cL_load 5 (some .int) [(0, 10, 13, 13), (0, 10, 17, 23), (0, 10, 21, 17)] :: fw_U) ({ frames := 8, cells := 1, slots := 6, locals := 132 } : Room)).room s m args below meth c H locs 0 0 (MQ below (fw_Q E o' d' (some (.int r)) μ') args s 1 6 (fw_A E)) (F0 m 0 ls []) := by
    intro H locs ls hP hS hl
    unfold f_L_load at h
    refine lv_aload_n hx hb dL_load_0 rfl (lv_at hl 3 rfl) ?_
    refine lv_iconst (v := (0 : Int32)) hx hb dL_load_1 (by decide) ?_
    refine lv_aload_n hx hb dL_load_2 rfl (lv_at hl 0 rfl) ?_
    refine lv_iload_n hx hb dL_load_3 rfl (lv_at hl 1 rfl) ?_
    refine lv_iload_n hx hb dL_load_4 rfl (lv_at hl 2 rfl) ?_
    obtain ⟨μ1, r1, k1, hc1, h⟩ := fw_b3_e h
    refine fw_xret (vx_runV (As := [.int x1, .int x2]) (rest := [.int (0 : Int32), .ref (fw_ad E 0 27)]) ⟨hx, hb, hml, hown, hU⟩ (k_X9_load l hst hE x1 x2 hc1) (cwV 2 hU (fw_gV m_536 m_537 m_538 m_1 m_539) rfl rfl rfl (by decide +kernel) ⟨(Nat.le_of_ble_eq_true rfl), (Nat.le_of_ble_eq_true rfl)⟩) ⟨fw_blind, fw_recv hK hP (fw_V0 (f := 10) (by decide) (by decide)) rfl rfl, fun U hU9 hW9 => ⟨rfl, fw_pre hK hP hSt hS U hU9 hW9⟩⟩ rfl rfl hl.1 rfl (lv_room (Nat.le_of_ble_eq_true rfl)) dL_load_5 ⟨(Nat.le_of_ble_eq_true rfl), (Nat.le_of_ble_eq_true rfl)⟩) hS (fun hk1 H locs hP hS => ?_) (fun hk1 H locs q ce hP hS hce hcv hcl => ?_)
    · rw [if_pos hk1] at h
      refine lv_i2l (v := r1.toInt64) hx hb dL_load_8 rfl ?_
      refine fw_last hx hb hK hP hE hS dL_load_9 (fun H locs hP hS => ?_)
      refine lv_goto (tgt := 25) hx hb dL_load_10 (by decide) ?_
      refine lv_iconst (v := (0 : Int32)) hx hb dL_load_25 (by decide) ?_
      refine W.widen (k := 1) (n := 6) (Nat.le_of_ble_eq_true rfl) (Nat.le_of_ble_eq_true rfl) ?_
      exact W.iret (v := (0 : Int32)) hx hb hr (fw_el h hP hS) hS.2.2 dL_load_26
    · rw [if_neg hk1] at h
      by_cases e1_0 : k1 = 1
      · rw [if_pos e1_0] at h
        subst e1_0
        refine vx_catch (E := "java/lang/IndexOutOfBoundsException") hown [] ⟨0, 10, 13, 13⟩ [⟨0, 10, 17, 23⟩, ⟨0, 10, 21, 17⟩] htab (fun _ h9 => absurd h9 List.not_mem_nil) (by decide) (by decide) (hU (Cond.classLink RL 13 "java/lang/IndexOutOfBoundsException") m_338) (va_Nw.use rfl (hSt.1.2.1 _ (by decide +kernel))) hce hcv hcl ?_
        refine lv_astore (lv' := [(4, .ref q), (0, .ref (fw_ad E 0 10)), (1, .int x1), (2, .int x2), (3, .ref (fw_ad E 0 27))]) hx hb dL_load_13 hl (by decide) rfl (fun ls hl => ?_)
        refine lv_iconst (v := (1 : Int32)) hx hb dL_load_15 (by decide) ?_
        refine W.widen (k := 1) (n := 6) (Nat.le_of_ble_eq_true rfl) (Nat.le_of_ble_eq_true rfl) ?_
        exact W.iret (v := (1 : Int32)) hx hb hr (fw_el h hP hS) hS.2.2 dL_load_16
      · rw [if_neg e1_0] at h
        by_cases e1_1 : k1 = 4
        · rw [if_pos e1_1] at h
          subst e1_1
          refine vx_catch (E := "java/lang/UnsupportedOperationException") hown [⟨0, 10, 13, 13⟩] ⟨0, 10, 17, 23⟩ [⟨0, 10, 21, 17⟩] htab (fun z h9 => by rw [List.mem_singleton.mp h9]; exact Or.inr ⟨by decide, "java/lang/IndexOutOfBoundsException", (hU (Cond.classLink RL 13 "java/lang/IndexOutOfBoundsException") m_338), hN2 _ (List.mem_of_getElem? (i := 4) rfl)⟩) (by decide) (by decide) (hU (Cond.classLink RL 23 "java/lang/UnsupportedOperationException") m_535) (va_Nw.use rfl (hSt.1.2.1 _ (by decide +kernel))) hce hcv hcl ?_
          refine lv_astore (lv' := [(4, .ref q), (0, .ref (fw_ad E 0 10)), (1, .int x1), (2, .int x2), (3, .ref (fw_ad E 0 27))]) hx hb dL_load_17 hl (by decide) rfl (fun ls hl => ?_)
          refine lv_iconst (v := (2 : Int32)) hx hb dL_load_19 (by decide) ?_
          refine W.widen (k := 1) (n := 6) (Nat.le_of_ble_eq_true rfl) (Nat.le_of_ble_eq_true rfl) ?_
          exact W.iret (v := (2 : Int32)) hx hb hr (fw_el h hP hS) hS.2.2 dL_load_20
        · rw [if_neg e1_1] at h
          by_cases e1_2 : k1 = 3
          · rw [if_pos e1_2] at h
            subst e1_2
            refine vx_catch (E := "java/lang/IllegalStateException") hown [⟨0, 10, 13, 13⟩, ⟨0, 10, 17, 23⟩] ⟨0, 10, 21, 17⟩ [] htab (fun z h9 => by rcases List.mem_cons.mp h9 with rfl | h9; exact Or.inr ⟨by decide, "java/lang/IndexOutOfBoundsException", (hU (Cond.classLink RL 13 "java/lang/IndexOutOfBoundsException") m_338), hN2 _ (List.mem_of_getElem? (i := 0) rfl)⟩; rw [List.mem_singleton.mp h9]; exact Or.inr ⟨by decide, "java/lang/UnsupportedOperationException", (hU (Cond.classLink RL 23 "java/lang/UnsupportedOperationException") m_535), hN2 _ (List.mem_of_getElem? (i := 3) rfl)⟩) (by decide) (by decide) (hU (Cond.classLink RL 17 "java/lang/IllegalStateException") m_419) (va_Nw.use rfl (hSt.1.2.1 _ (by decide +kernel))) hce hcv hcl ?_
            refine lv_astore (lv' := [(4, .ref q), (0, .ref (fw_ad E 0 10)), (1, .int x1), (2, .int x2), (3, .ref (fw_ad E 0 27))]) hx hb dL_load_21 hl (by decide) rfl (fun ls hl => ?_)
            refine lv_iconst (v := (3 : Int32)) hx hb dL_load_23 (by decide) ?_
            refine W.widen (k := 1) (n := 6) (Nat.le_of_ble_eq_true rfl) (Nat.le_of_ble_eq_true rfl) ?_
            exact W.iret (v := (3 : Int32)) hx hb hr (fw_el h hP hS) hS.2.2 dL_load_24
          · rw [if_neg e1_2] at h
            cases h
  subst ha
  have hl := lv_entry ([.ref (fw_ad E 0 10), .int x1, .int x2, .ref (fw_ad E 0 27)]) (n := 5) (Nat.le_of_ble_eq_true rfl)
  rw [lg_entry_eq]
  generalize (lg_sl ([.ref (fw_ad E 0 10), .int x1, .int x2, .ref (fw_ad E 0 27)]) ++ List.replicate (5 - (lg_sl ([.ref (fw_ad E 0 10), .int x1, .int x2, .ref (fw_ad E 0 27)])).length) Slot.unset).toArray = ls at hl ⊢
  exact EN s.heap [] ls hP va_S.rf hl
set_option maxHeartbeats 4000000 in
set_option maxRecDepth 100000 in
theorem k_L_takeOut (l : Launch) (hst : l.stackTraces = false) {E : fw_E} {o o' : Int64} {d d' : UInt64} (hE : fw_ok E) {μ μ' : fw_M} (x1 : Int32) {r : Int32} (h : f_L_takeOut μ o d x1 = some (μ', o', d', r)) : Met l yL_takeOut (Cond.codeWith yL_takeOut cL_takeOut 4 (some .int) [(0, 9, 12, 13), (0, 9, 15, 23)] :: fw_U) ({ frames := 8, cells := 1, slots := 6, locals := 131 } : Room) (va_Pc [.ref (fw_ad E 0 10), .int x1, .ref (fw_ad E 0 27)] (fun U => fw_Pre E o d μ U ∧ fw_S2 U)) (fw_Q E o' d' (some (.int r)) μ') 1 6 (fw_A E) := by
  refine va_MetW (cc := cL_takeOut) (maxL := 4) (ret := some .int) (by decide) rfl ?_
  intro p e s m args below meth c s₁ B hml hv
  obtain ⟨ha, ⟨hK, hP, hSt⟩, hN2⟩ := hv
  have hx := B.exec
  have hb := B.bytes
  have hr := B.returns
  have hts := atoms_spec (ws := (Cond.codeWith yL_takeOut cL_takeOut 4 (some .int) [(0, 9, 12, 13), (0, 9, 15, 23)] :: fw_U)) B.pre
  have hU : ∀ w ∈ fw_U, w.before args s = true := fun w hw => hts w (List.mem_cons_of_mem _ hw)
  have htab : c.exceptionTable.toList = [⟨0, 9, 12, 13⟩, ⟨0, 9, 15, 23⟩] := vx_table (x := yL_takeOut) B (hts _ List.mem_cons_self)
  have hown : s.vm.findClass RL = some m.cls := findClass_of_methodNamed B.named
  have hlocks := B.notSynchronized
  have EN : ∀ (H : Heap) (locs : List Loc) (ls : Array Slot), fw_P E o d μ H → va_S (fw_A E) s.heap H locs → lv_has ls 4 [(0, .ref (fw_ad E 0 10)), (1, .int x1), (2, .ref (fw_ad E 0 27))] → W p l e (headSpec (Cond.codeWith yL_takeOut cL_takeOut 4 (some .int) [(0, 9, 12, 13), (0, 9, 15, 23)] :: fw_U) ({ frames := 8, cells := 1, slots := 6, locals := 131 } : Room)).room s m args below meth c H locs 0 0 (MQ below (fw_Q E o' d' (some (.int r)) μ') args s 1 6 (fw_A E)) (F0 m 0 ls []) := by
    intro H locs ls hP hS hl
    unfold f_L_takeOut at h
    refine lv_aload_n hx hb dL_takeOut_0 rfl (lv_at hl 2 rfl) ?_
    refine lv_iconst (v := (0 : Int32)) hx hb dL_takeOut_1 (by decide) ?_
    refine lv_aload_n hx hb dL_takeOut_2 rfl (lv_at hl 0 rfl) ?_
    refine lv_iload_n hx hb dL_takeOut_3 rfl (lv_at hl 1 rfl) ?_
    obtain ⟨μ1, r1, k1, hc1, h⟩ := fw_b3_e h
    refine fw_xret (vx_runV (As := [.int x1]) (rest := [.int (0 : Int32), .ref (fw_ad E 0 27)]) ⟨hx, hb, hml, hown, hU⟩ (k_X9_takeOut l hst hE x1 hc1) (cwV 1 hU (fw_gV m_560 m_561 m_562 m_1 m_563) rfl rfl rfl (by decide +kernel) ⟨(Nat.le_of_ble_eq_true rfl), (Nat.le_of_ble_eq_true rfl)⟩) ⟨fw_blind, fw_recv hK hP (fw_V0 (f := 10) (by decide) (by decide)) rfl rfl, fun U hU9 hW9 => ⟨rfl, fw_pre hK hP hSt hS U hU9 hW9⟩⟩ rfl rfl hl.1 rfl (lv_room (Nat.le_of_ble_eq_true rfl)) dL_takeOut_4 ⟨(Nat.le_of_ble_eq_true rfl), (Nat.le_of_ble_eq_true rfl)⟩) hS (fun hk1 H locs hP hS => ?_) (fun hk1 H locs q ce hP hS hce hcv hcl => ?_)
    · rw [if_pos hk1] at h
      refine lv_i2l (v := r1.toInt64) hx hb dL_takeOut_7 rfl ?_
      refine fw_last hx hb hK hP hE hS dL_takeOut_8 (fun H locs hP hS => ?_)
      refine lv_goto (tgt := 18) hx hb dL_takeOut_9 (by decide) ?_
      refine lv_iconst (v := (0 : Int32)) hx hb dL_takeOut_18 (by decide) ?_
      refine W.widen (k := 1) (n := 6) (Nat.le_of_ble_eq_true rfl) (Nat.le_of_ble_eq_true rfl) ?_
      exact W.iret (v := (0 : Int32)) hx hb hr (fw_el h hP hS) hS.2.2 dL_takeOut_19
    · rw [if_neg hk1] at h
      by_cases e1_0 : k1 = 1
      · rw [if_pos e1_0] at h
        subst e1_0
        refine vx_catch (E := "java/lang/IndexOutOfBoundsException") hown [] ⟨0, 9, 12, 13⟩ [⟨0, 9, 15, 23⟩] htab (fun _ h9 => absurd h9 List.not_mem_nil) (by decide) (by decide) (hU (Cond.classLink RL 13 "java/lang/IndexOutOfBoundsException") m_338) (va_Nw.use rfl (hSt.1.2.1 _ (by decide +kernel))) hce hcv hcl ?_
        refine lv_astore_n (lv' := [(3, .ref q), (0, .ref (fw_ad E 0 10)), (1, .int x1), (2, .ref (fw_ad E 0 27))]) hx hb dL_takeOut_12 rfl hl (by decide) rfl (fun ls hl => ?_)
        refine lv_iconst (v := (1 : Int32)) hx hb dL_takeOut_13 (by decide) ?_
        refine W.widen (k := 1) (n := 6) (Nat.le_of_ble_eq_true rfl) (Nat.le_of_ble_eq_true rfl) ?_
        exact W.iret (v := (1 : Int32)) hx hb hr (fw_el h hP hS) hS.2.2 dL_takeOut_14
      · rw [if_neg e1_0] at h
        by_cases e1_1 : k1 = 4
        · rw [if_pos e1_1] at h
          subst e1_1
          refine vx_catch (E := "java/lang/UnsupportedOperationException") hown [⟨0, 9, 12, 13⟩] ⟨0, 9, 15, 23⟩ [] htab (fun z h9 => by rw [List.mem_singleton.mp h9]; exact Or.inr ⟨by decide, "java/lang/IndexOutOfBoundsException", (hU (Cond.classLink RL 13 "java/lang/IndexOutOfBoundsException") m_338), hN2 _ (List.mem_of_getElem? (i := 4) rfl)⟩) (by decide) (by decide) (hU (Cond.classLink RL 23 "java/lang/UnsupportedOperationException") m_535) (va_Nw.use rfl (hSt.1.2.1 _ (by decide +kernel))) hce hcv hcl ?_
          refine lv_astore_n (lv' := [(3, .ref q), (0, .ref (fw_ad E 0 10)), (1, .int x1), (2, .ref (fw_ad E 0 27))]) hx hb dL_takeOut_15 rfl hl (by decide) rfl (fun ls hl => ?_)
          refine lv_iconst (v := (2 : Int32)) hx hb dL_takeOut_16 (by decide) ?_
          refine W.widen (k := 1) (n := 6) (Nat.le_of_ble_eq_true rfl) (Nat.le_of_ble_eq_true rfl) ?_
          exact W.iret (v := (2 : Int32)) hx hb hr (fw_el h hP hS) hS.2.2 dL_takeOut_17
        · rw [if_neg e1_1] at h
          cases h
  subst ha
  have hl := lv_entry ([.ref (fw_ad E 0 10), .int x1, .ref (fw_ad E 0 27)]) (n := 4) (Nat.le_of_ble_eq_true rfl)
  rw [lg_entry_eq]
  generalize (lg_sl ([.ref (fw_ad E 0 10), .int x1, .ref (fw_ad E 0 27)]) ++ List.replicate (4 - (lg_sl ([.ref (fw_ad E 0 10), .int x1, .ref (fw_ad E 0 27)])).length) Slot.unset).toArray = ls at hl ⊢
  exact EN s.heap [] ls hP va_S.rf hl
set_option maxHeartbeats 4000000 in
set_option maxRecDepth 100000 in
theorem k_L_setTemperature (l : Launch) (hst : l.stackTraces = false) {E : fw_E} {o o' : Int64} {d d' : UInt64} (hE : fw_ok E) {μ μ' : fw_M} (x1 : Int32) (x2 : Int32) {r : Int32} (h : f_L_setTemperature μ o d x1 x2 = some (μ', o', d', r)) : Met l yL_setTemperature (Cond.codeWith yL_setTemperature cL_setTemperature 5 (some .int) [(0, 10, 13, 13), (0, 10, 17, 15)] :: fw_U) ({ frames := 8, cells := 1, slots := 6, locals := 133 } : Room) (va_Pc [.ref (fw_ad E 0 10), .int x1, .int x2, .ref (fw_ad E 0 28)] (fun U => fw_Pre E o d μ U ∧ fw_S2 U)) (fw_Q E o' d' (some (.int r)) μ') 1 6 (fw_A E) := by
  refine va_MetW (cc := cL_setTemperature) (maxL := 5) (ret := some .int) (by decide) rfl ?_
  intro p e s m args below meth c s₁ B hml hv
  obtain ⟨ha, ⟨hK, hP, hSt⟩, hN2⟩ := hv
  have hx := B.exec
  have hb := B.bytes
  have hr := B.returns
  have hts := atoms_spec (ws := (Cond.codeWith yL_setTemperature cL_setTemperature 5 (some .int) [(0, 10, 13, 13), (0, 10, 17, 15)] :: fw_U)) B.pre
  have hU : ∀ w ∈ fw_U, w.before args s = true := fun w hw => hts w (List.mem_cons_of_mem _ hw)
  have htab : c.exceptionTable.toList = [⟨0, 10, 13, 13⟩, ⟨0, 10, 17, 15⟩] := vx_table (x := yL_setTemperature) B (hts _ List.mem_cons_self)
  have hown : s.vm.findClass RL = some m.cls := findClass_of_methodNamed B.named
  have hlocks := B.notSynchronized
  have EN : ∀ (H : Heap) (locs : List Loc) (ls : Array Slot), fw_P E o d μ H → va_S (fw_A E) s.heap H locs → lv_has ls 5 [(0, .ref (fw_ad E 0 10)), (1, .int x1), (2, .int x2), (3, .ref (fw_ad E 0 28))] → W p l e (headSpec (Cond.codeWith yL_setTemperature cL_setTemperature 5 (some .int) [(0, 10, 13, 13), (0, 10, 17, 15)] :: fw_U) ({ frames := 8, cells := 1, slots := 6, locals := 133 } : Room)).room s m args below meth c H locs 0 0 (MQ below (fw_Q E o' d' (some (.int r)) μ') args s 1 6 (fw_A E)) (F0 m 0 ls []) := by
    intro H locs ls hP hS hl
    unfold f_L_setTemperature at h
    refine lv_aload_n hx hb dL_setTemperature_0 rfl (lv_at hl 3 rfl) ?_
    refine lv_iconst (v := (0 : Int32)) hx hb dL_setTemperature_1 (by decide) ?_
    refine lv_aload_n hx hb dL_setTemperature_2 rfl (lv_at hl 0 rfl) ?_
    refine lv_iload_n hx hb dL_setTemperature_3 rfl (lv_at hl 1 rfl) ?_
    refine lv_iload_n hx hb dL_setTemperature_4 rfl (lv_at hl 2 rfl) ?_
    obtain ⟨μ1, r1, k1, hc1, h⟩ := fw_b3_e h
    refine fw_xret (vx_runV (As := [.int x1, .int x2]) (rest := [.int (0 : Int32), .ref (fw_ad E 0 28)]) ⟨hx, hb, hml, hown, hU⟩ (k_X9_setTemperature l hst hE x1 x2 hc1) (cwV 2 hU (fw_gV m_575 m_576 m_577 m_1 m_578) rfl rfl rfl (by decide +kernel) ⟨(Nat.le_of_ble_eq_true rfl), (Nat.le_of_ble_eq_true rfl)⟩) ⟨fw_blind, fw_recv hK hP (fw_V0 (f := 10) (by decide) (by decide)) rfl rfl, fun U hU9 hW9 => ⟨rfl, fw_pre hK hP hSt hS U hU9 hW9⟩⟩ rfl rfl hl.1 rfl (lv_room (Nat.le_of_ble_eq_true rfl)) dL_setTemperature_5 ⟨(Nat.le_of_ble_eq_true rfl), (Nat.le_of_ble_eq_true rfl)⟩) hS (fun hk1 H locs hP hS => ?_) (fun hk1 H locs q ce hP hS hce hcv hcl => ?_)
    · rw [if_pos hk1] at h
      obtain ⟨g2, h⟩ := fw_g_e h
      refine lv_f2d hx hb dL_setTemperature_8 (fw_f64_e g2) ?_
      refine fw_dast hx hb hK hP hE hS dL_setTemperature_9 (fun H locs hP hS => ?_)
      refine lv_goto (tgt := 21) hx hb dL_setTemperature_10 (by decide) ?_
      refine lv_iconst (v := (0 : Int32)) hx hb dL_setTemperature_21 (by decide) ?_
      refine W.widen (k := 1) (n := 6) (Nat.le_of_ble_eq_true rfl) (Nat.le_of_ble_eq_true rfl) ?_
      exact W.iret (v := (0 : Int32)) hx hb hr (fw_el h hP hS) hS.2.2 dL_setTemperature_22
    · rw [if_neg hk1] at h
      by_cases e1_0 : k1 = 1
      · rw [if_pos e1_0] at h
        subst e1_0
        refine vx_catch (E := "java/lang/IndexOutOfBoundsException") hown [] ⟨0, 10, 13, 13⟩ [⟨0, 10, 17, 15⟩] htab (fun _ h9 => absurd h9 List.not_mem_nil) (by decide) (by decide) (hU (Cond.classLink RL 13 "java/lang/IndexOutOfBoundsException") m_338) (va_Nw.use rfl (hSt.1.2.1 _ (by decide +kernel))) hce hcv hcl ?_
        refine lv_astore (lv' := [(4, .ref q), (0, .ref (fw_ad E 0 10)), (1, .int x1), (2, .int x2), (3, .ref (fw_ad E 0 28))]) hx hb dL_setTemperature_13 hl (by decide) rfl (fun ls hl => ?_)
        refine lv_iconst (v := (1 : Int32)) hx hb dL_setTemperature_15 (by decide) ?_
        refine W.widen (k := 1) (n := 6) (Nat.le_of_ble_eq_true rfl) (Nat.le_of_ble_eq_true rfl) ?_
        exact W.iret (v := (1 : Int32)) hx hb hr (fw_el h hP hS) hS.2.2 dL_setTemperature_16
      · rw [if_neg e1_0] at h
        by_cases e1_1 : k1 = 2
        · rw [if_pos e1_1] at h
          subst e1_1
          refine vx_catch (E := "java/lang/IllegalArgumentException") hown [⟨0, 10, 13, 13⟩] ⟨0, 10, 17, 15⟩ [] htab (fun z h9 => by rw [List.mem_singleton.mp h9]; exact Or.inr ⟨by decide, "java/lang/IndexOutOfBoundsException", (hU (Cond.classLink RL 13 "java/lang/IndexOutOfBoundsException") m_338), hN2 _ (List.mem_of_getElem? (i := 2) rfl)⟩) (by decide) (by decide) (hU (Cond.classLink RL 15 "java/lang/IllegalArgumentException") m_418) (va_Nw.use rfl (hSt.1.2.1 _ (by decide +kernel))) hce hcv hcl ?_
          refine lv_astore (lv' := [(4, .ref q), (0, .ref (fw_ad E 0 10)), (1, .int x1), (2, .int x2), (3, .ref (fw_ad E 0 28))]) hx hb dL_setTemperature_17 hl (by decide) rfl (fun ls hl => ?_)
          refine lv_iconst (v := (2 : Int32)) hx hb dL_setTemperature_19 (by decide) ?_
          refine W.widen (k := 1) (n := 6) (Nat.le_of_ble_eq_true rfl) (Nat.le_of_ble_eq_true rfl) ?_
          exact W.iret (v := (2 : Int32)) hx hb hr (fw_el h hP hS) hS.2.2 dL_setTemperature_20
        · rw [if_neg e1_1] at h
          cases h
  subst ha
  have hl := lv_entry ([.ref (fw_ad E 0 10), .int x1, .int x2, .ref (fw_ad E 0 28)]) (n := 5) (Nat.le_of_ble_eq_true rfl)
  rw [lg_entry_eq]
  generalize (lg_sl ([.ref (fw_ad E 0 10), .int x1, .int x2, .ref (fw_ad E 0 28)]) ++ List.replicate (5 - (lg_sl ([.ref (fw_ad E 0 10), .int x1, .int x2, .ref (fw_ad E 0 28)])).length) Slot.unset).toArray = ls at hl ⊢
  exact EN s.heap [] ls hP va_S.rf hl
set_option maxHeartbeats 4000000 in
set_option maxRecDepth 100000 in
theorem k_L_run (l : Launch) (hst : l.stackTraces = false) {E : fw_E} {o o' : Int64} {d d' : UInt64} (hE : fw_ok E) {μ μ' : fw_M} (x1 : Int32) {r : Int32} (h : f_L_run μ o d x1 = some (μ', o', d', r)) : Met l yL_run (Cond.codeWith yL_run cL_run 4 (some .int) [(0, 9, 12, 13), (0, 9, 15, 17)] :: fw_U) ({ frames := 8, cells := 1, slots := 6, locals := 131 } : Room) (va_Pc [.ref (fw_ad E 0 10), .int x1, .ref (fw_ad E 0 27)] (fun U => fw_Pre E o d μ U ∧ fw_S2 U)) (fw_Q E o' d' (some (.int r)) μ') 1 6 (fw_A E) := by
  refine va_MetW (cc := cL_run) (maxL := 4) (ret := some .int) (by decide) rfl ?_
  intro p e s m args below meth c s₁ B hml hv
  obtain ⟨ha, ⟨hK, hP, hSt⟩, hN2⟩ := hv
  have hx := B.exec
  have hb := B.bytes
  have hr := B.returns
  have hts := atoms_spec (ws := (Cond.codeWith yL_run cL_run 4 (some .int) [(0, 9, 12, 13), (0, 9, 15, 17)] :: fw_U)) B.pre
  have hU : ∀ w ∈ fw_U, w.before args s = true := fun w hw => hts w (List.mem_cons_of_mem _ hw)
  have htab : c.exceptionTable.toList = [⟨0, 9, 12, 13⟩, ⟨0, 9, 15, 17⟩] := vx_table (x := yL_run) B (hts _ List.mem_cons_self)
  have hown : s.vm.findClass RL = some m.cls := findClass_of_methodNamed B.named
  have hlocks := B.notSynchronized
  have EN : ∀ (H : Heap) (locs : List Loc) (ls : Array Slot), fw_P E o d μ H → va_S (fw_A E) s.heap H locs → lv_has ls 4 [(0, .ref (fw_ad E 0 10)), (1, .int x1), (2, .ref (fw_ad E 0 27))] → W p l e (headSpec (Cond.codeWith yL_run cL_run 4 (some .int) [(0, 9, 12, 13), (0, 9, 15, 17)] :: fw_U) ({ frames := 8, cells := 1, slots := 6, locals := 131 } : Room)).room s m args below meth c H locs 0 0 (MQ below (fw_Q E o' d' (some (.int r)) μ') args s 1 6 (fw_A E)) (F0 m 0 ls []) := by
    intro H locs ls hP hS hl
    unfold f_L_run at h
    refine lv_aload_n hx hb dL_run_0 rfl (lv_at hl 2 rfl) ?_
    refine lv_iconst (v := (0 : Int32)) hx hb dL_run_1 (by decide) ?_
    refine lv_aload_n hx hb dL_run_2 rfl (lv_at hl 0 rfl) ?_
    refine lv_iload_n hx hb dL_run_3 rfl (lv_at hl 1 rfl) ?_
    obtain ⟨μ1, r1, k1, hc1, h⟩ := fw_b3_e h
    refine fw_xret (vx_runV (As := [.int x1]) (rest := [.int (0 : Int32), .ref (fw_ad E 0 27)]) ⟨hx, hb, hml, hown, hU⟩ (k_X9_run l hst hE x1 hc1) (cwV 1 hU (fw_gV m_590 m_591 m_592 m_1 m_593) rfl rfl rfl (by decide +kernel) ⟨(Nat.le_of_ble_eq_true rfl), (Nat.le_of_ble_eq_true rfl)⟩) ⟨fw_blind, fw_recv hK hP (fw_V0 (f := 10) (by decide) (by decide)) rfl rfl, fun U hU9 hW9 => ⟨rfl, fw_pre hK hP hSt hS U hU9 hW9⟩⟩ rfl rfl hl.1 rfl (lv_room (Nat.le_of_ble_eq_true rfl)) dL_run_4 ⟨(Nat.le_of_ble_eq_true rfl), (Nat.le_of_ble_eq_true rfl)⟩) hS (fun hk1 H locs hP hS => ?_) (fun hk1 H locs q ce hP hS hce hcv hcl => ?_)
    · rw [if_pos hk1] at h
      refine lv_i2l (v := r1.toInt64) hx hb dL_run_7 rfl ?_
      refine fw_last hx hb hK hP hE hS dL_run_8 (fun H locs hP hS => ?_)
      refine lv_goto (tgt := 18) hx hb dL_run_9 (by decide) ?_
      refine lv_iconst (v := (0 : Int32)) hx hb dL_run_18 (by decide) ?_
      refine W.widen (k := 1) (n := 6) (Nat.le_of_ble_eq_true rfl) (Nat.le_of_ble_eq_true rfl) ?_
      exact W.iret (v := (0 : Int32)) hx hb hr (fw_el h hP hS) hS.2.2 dL_run_19
    · rw [if_neg hk1] at h
      by_cases e1_0 : k1 = 1
      · rw [if_pos e1_0] at h
        subst e1_0
        refine vx_catch (E := "java/lang/IndexOutOfBoundsException") hown [] ⟨0, 9, 12, 13⟩ [⟨0, 9, 15, 17⟩] htab (fun _ h9 => absurd h9 List.not_mem_nil) (by decide) (by decide) (hU (Cond.classLink RL 13 "java/lang/IndexOutOfBoundsException") m_338) (va_Nw.use rfl (hSt.1.2.1 _ (by decide +kernel))) hce hcv hcl ?_
        refine lv_astore_n (lv' := [(3, .ref q), (0, .ref (fw_ad E 0 10)), (1, .int x1), (2, .ref (fw_ad E 0 27))]) hx hb dL_run_12 rfl hl (by decide) rfl (fun ls hl => ?_)
        refine lv_iconst (v := (1 : Int32)) hx hb dL_run_13 (by decide) ?_
        refine W.widen (k := 1) (n := 6) (Nat.le_of_ble_eq_true rfl) (Nat.le_of_ble_eq_true rfl) ?_
        exact W.iret (v := (1 : Int32)) hx hb hr (fw_el h hP hS) hS.2.2 dL_run_14
      · rw [if_neg e1_0] at h
        by_cases e1_1 : k1 = 3
        · rw [if_pos e1_1] at h
          subst e1_1
          refine vx_catch (E := "java/lang/IllegalStateException") hown [⟨0, 9, 12, 13⟩] ⟨0, 9, 15, 17⟩ [] htab (fun z h9 => by rw [List.mem_singleton.mp h9]; exact Or.inr ⟨by decide, "java/lang/IndexOutOfBoundsException", (hU (Cond.classLink RL 13 "java/lang/IndexOutOfBoundsException") m_338), hN2 _ (List.mem_of_getElem? (i := 0) rfl)⟩) (by decide) (by decide) (hU (Cond.classLink RL 17 "java/lang/IllegalStateException") m_419) (va_Nw.use rfl (hSt.1.2.1 _ (by decide +kernel))) hce hcv hcl ?_
          refine lv_astore_n (lv' := [(3, .ref q), (0, .ref (fw_ad E 0 10)), (1, .int x1), (2, .ref (fw_ad E 0 27))]) hx hb dL_run_15 rfl hl (by decide) rfl (fun ls hl => ?_)
          refine lv_iconst (v := (2 : Int32)) hx hb dL_run_16 (by decide) ?_
          refine W.widen (k := 1) (n := 6) (Nat.le_of_ble_eq_true rfl) (Nat.le_of_ble_eq_true rfl) ?_
          exact W.iret (v := (2 : Int32)) hx hb hr (fw_el h hP hS) hS.2.2 dL_run_17
        · rw [if_neg e1_1] at h
          cases h
  subst ha
  have hl := lv_entry ([.ref (fw_ad E 0 10), .int x1, .ref (fw_ad E 0 27)]) (n := 4) (Nat.le_of_ble_eq_true rfl)
  rw [lg_entry_eq]
  generalize (lg_sl ([.ref (fw_ad E 0 10), .int x1, .ref (fw_ad E 0 27)]) ++ List.replicate (4 - (lg_sl ([.ref (fw_ad E 0 10), .int x1, .ref (fw_ad E 0 27)])).length) Slot.unset).toArray = ls at hl ⊢
  exact EN s.heap [] ls hP va_S.rf hl
set_option maxHeartbeats 4000000 in
set_option maxRecDepth 100000 in
theorem k_L_client (l : Launch) (hst : l.stackTraces = false) {E : fw_E} {o o' : Int64} {d d' : UInt64} (hE : fw_ok E) {μ μ' : fw_M} (x1 : Int32) {r : Int32} (h : f_L_client μ o d x1 = some (μ', o', d', r)) : Met l yL_client (Cond.codeWith yL_client cL_client 4 (some .int) [(0, 9, 12, 13)] :: fw_U) ({ frames := 8, cells := 1, slots := 6, locals := 132 } : Room) (va_Pc [.ref (fw_ad E 0 10), .int x1, .ref (fw_ad E 0 27)] (fun U => fw_Pre E o d μ U ∧ fw_S2 U)) (fw_Q E o' d' (some (.int r)) μ') 1 6 (fw_A E) := by
  refine va_MetW (cc := cL_client) (maxL := 4) (ret := some .int) (by decide) rfl ?_
  intro p e s m args below meth c s₁ B hml hv
  obtain ⟨ha, ⟨hK, hP, hSt⟩, hN2⟩ := hv
  have hx := B.exec
  have hb := B.bytes
  have hr := B.returns
  have hts := atoms_spec (ws := (Cond.codeWith yL_client cL_client 4 (some .int) [(0, 9, 12, 13)] :: fw_U)) B.pre
  have hU : ∀ w ∈ fw_U, w.before args s = true := fun w hw => hts w (List.mem_cons_of_mem _ hw)
  have htab : c.exceptionTable.toList = [⟨0, 9, 12, 13⟩] := vx_table (x := yL_client) B (hts _ List.mem_cons_self)
  have hown : s.vm.findClass RL = some m.cls := findClass_of_methodNamed B.named
  have hlocks := B.notSynchronized
  have EN : ∀ (H : Heap) (locs : List Loc) (ls : Array Slot), fw_P E o d μ H → va_S (fw_A E) s.heap H locs → lv_has ls 4 [(0, .ref (fw_ad E 0 10)), (1, .int x1), (2, .ref (fw_ad E 0 27))] → W p l e (headSpec (Cond.codeWith yL_client cL_client 4 (some .int) [(0, 9, 12, 13)] :: fw_U) ({ frames := 8, cells := 1, slots := 6, locals := 132 } : Room)).room s m args below meth c H locs 0 0 (MQ below (fw_Q E o' d' (some (.int r)) μ') args s 1 6 (fw_A E)) (F0 m 0 ls []) := by
    intro H locs ls hP hS hl
    unfold f_L_client at h
    refine lv_aload_n hx hb dL_client_0 rfl (lv_at hl 2 rfl) ?_
    refine lv_iconst (v := (0 : Int32)) hx hb dL_client_1 (by decide) ?_
    refine lv_aload_n hx hb dL_client_2 rfl (lv_at hl 0 rfl) ?_
    refine lv_iload_n hx hb dL_client_3 rfl (lv_at hl 1 rfl) ?_
    obtain ⟨μ1, r1, k1, hc1, h⟩ := fw_b3_e h
    refine fw_xret (vx_runV (As := [.int x1]) (rest := [.int (0 : Int32), .ref (fw_ad E 0 27)]) ⟨hx, hb, hml, hown, hU⟩ (k_X9_client l hst hE x1 hc1) (cwV 1 hU (fw_gV m_621 m_622 m_623 m_1 m_624) rfl rfl rfl (by decide +kernel) ⟨(Nat.le_of_ble_eq_true rfl), (Nat.le_of_ble_eq_true rfl)⟩) ⟨fw_blind, fw_recv hK hP (fw_V0 (f := 10) (by decide) (by decide)) rfl rfl, fun U hU9 hW9 => ⟨rfl, fw_pre hK hP hSt hS U hU9 hW9⟩⟩ rfl rfl hl.1 rfl (lv_room (Nat.le_of_ble_eq_true rfl)) dL_client_4 ⟨(Nat.le_of_ble_eq_true rfl), (Nat.le_of_ble_eq_true rfl)⟩) hS (fun hk1 H locs hP hS => ?_) (fun hk1 H locs q ce hP hS hce hcv hcl => ?_)
    · rw [if_pos hk1] at h
      refine lv_i2l (v := r1.toInt64) hx hb dL_client_7 rfl ?_
      refine fw_last hx hb hK hP hE hS dL_client_8 (fun H locs hP hS => ?_)
      refine lv_goto (tgt := 15) hx hb dL_client_9 (by decide) ?_
      refine lv_iconst (v := (0 : Int32)) hx hb dL_client_15 (by decide) ?_
      refine W.widen (k := 1) (n := 6) (Nat.le_of_ble_eq_true rfl) (Nat.le_of_ble_eq_true rfl) ?_
      exact W.iret (v := (0 : Int32)) hx hb hr (fw_el h hP hS) hS.2.2 dL_client_16
    · rw [if_neg hk1] at h
      by_cases e1_0 : k1 = 1
      · rw [if_pos e1_0] at h
        subst e1_0
        refine vx_catch (E := "java/lang/IndexOutOfBoundsException") hown [] ⟨0, 9, 12, 13⟩ [] htab (fun _ h9 => absurd h9 List.not_mem_nil) (by decide) (by decide) (hU (Cond.classLink RL 13 "java/lang/IndexOutOfBoundsException") m_338) (va_Nw.use rfl (hSt.1.2.1 _ (by decide +kernel))) hce hcv hcl ?_
        refine lv_astore_n (lv' := [(3, .ref q), (0, .ref (fw_ad E 0 10)), (1, .int x1), (2, .ref (fw_ad E 0 27))]) hx hb dL_client_12 rfl hl (by decide) rfl (fun ls hl => ?_)
        refine lv_iconst (v := (1 : Int32)) hx hb dL_client_13 (by decide) ?_
        refine W.widen (k := 1) (n := 6) (Nat.le_of_ble_eq_true rfl) (Nat.le_of_ble_eq_true rfl) ?_
        exact W.iret (v := (1 : Int32)) hx hb hr (fw_el h hP hS) hS.2.2 dL_client_14
      · rw [if_neg e1_0] at h
        cases h
  subst ha
  have hl := lv_entry ([.ref (fw_ad E 0 10), .int x1, .ref (fw_ad E 0 27)]) (n := 4) (Nat.le_of_ble_eq_true rfl)
  rw [lg_entry_eq]
  generalize (lg_sl ([.ref (fw_ad E 0 10), .int x1, .ref (fw_ad E 0 27)]) ++ List.replicate (4 - (lg_sl ([.ref (fw_ad E 0 10), .int x1, .ref (fw_ad E 0 27)])).length) Slot.unset).toArray = ls at hl ⊢
  exact EN s.heap [] ls hP va_S.rf hl
set_option maxHeartbeats 4000000 in
set_option maxRecDepth 100000 in
theorem k_L_isSock (l : Launch) (hst : l.stackTraces = false) {E : fw_E} {o o' : Int64} {d d' : UInt64} (hE : fw_ok E) {μ μ' : fw_M} (x1 : Int32) {r : Int32} (h : f_L_isSock μ o d x1 = some (μ', o', d', r)) : Met l yL_isSock (Cond.codeWith yL_isSock cL_isSock 4 (some .int) [(0, 16, 19, 13)] :: fw_U) ({ frames := 8, cells := 1, slots := 6, locals := 132 } : Room) (va_Pc [.ref (fw_ad E 0 10), .int x1, .ref (fw_ad E 0 27)] (fun U => fw_Pre E o d μ U ∧ fw_S2 U)) (fw_Q E o' d' (some (.int r)) μ') 1 6 (fw_A E) := by
  refine va_MetW (cc := cL_isSock) (maxL := 4) (ret := some .int) (by decide) rfl ?_
  intro p e s m args below meth c s₁ B hml hv
  obtain ⟨ha, ⟨hK, hP, hSt⟩, hN2⟩ := hv
  have hx := B.exec
  have hb := B.bytes
  have hr := B.returns
  have hts := atoms_spec (ws := (Cond.codeWith yL_isSock cL_isSock 4 (some .int) [(0, 16, 19, 13)] :: fw_U)) B.pre
  have hU : ∀ w ∈ fw_U, w.before args s = true := fun w hw => hts w (List.mem_cons_of_mem _ hw)
  have htab : c.exceptionTable.toList = [⟨0, 16, 19, 13⟩] := vx_table (x := yL_isSock) B (hts _ List.mem_cons_self)
  have hown : s.vm.findClass RL = some m.cls := findClass_of_methodNamed B.named
  have hlocks := B.notSynchronized
  have EN : ∀ (H : Heap) (locs : List Loc) (ls : Array Slot), fw_P E o d μ H → va_S (fw_A E) s.heap H locs → lv_has ls 4 [(0, .ref (fw_ad E 0 10)), (1, .int x1), (2, .ref (fw_ad E 0 27))] → W p l e (headSpec (Cond.codeWith yL_isSock cL_isSock 4 (some .int) [(0, 16, 19, 13)] :: fw_U) ({ frames := 8, cells := 1, slots := 6, locals := 132 } : Room)).room s m args below meth c H locs 0 0 (MQ below (fw_Q E o' d' (some (.int r)) μ') args s 1 6 (fw_A E)) (F0 m 0 ls []) := by
    intro H locs ls hP hS hl
    unfold f_L_isSock at h
    refine lv_aload_n hx hb dL_isSock_0 rfl (lv_at hl 2 rfl) ?_
    refine lv_iconst (v := (0 : Int32)) hx hb dL_isSock_1 (by decide) ?_
    refine lv_aload_n hx hb dL_isSock_2 rfl (lv_at hl 0 rfl) ?_
    refine lv_iload_n hx hb dL_isSock_3 rfl (lv_at hl 1 rfl) ?_
    obtain ⟨μ1, r1, k1, hc1, h⟩ := fw_b3_e h
    refine fw_xret (vx_runV (As := [.int x1]) (rest := [.int (0 : Int32), .ref (fw_ad E 0 27)]) ⟨hx, hb, hml, hown, hU⟩ (k_X9_isSock l hst hE x1 hc1) (cwV 1 hU (fw_gV m_634 m_635 m_636 m_1 m_637) rfl rfl rfl (by decide +kernel) ⟨(Nat.le_of_ble_eq_true rfl), (Nat.le_of_ble_eq_true rfl)⟩) ⟨fw_blind, fw_recv hK hP (fw_V0 (f := 10) (by decide) (by decide)) rfl rfl, fun U hU9 hW9 => ⟨rfl, fw_pre hK hP hSt hS U hU9 hW9⟩⟩ rfl rfl hl.1 rfl (lv_room (Nat.le_of_ble_eq_true rfl)) dL_isSock_4 ⟨(Nat.le_of_ble_eq_true rfl), (Nat.le_of_ble_eq_true rfl)⟩) hS (fun hk1 H locs hP hS => ?_) (fun hk1 H locs q ce hP hS hce hcv hcl => ?_)
    · rw [if_pos hk1] at h
      refine lv_if_eq (tgt := 14) hx hb dL_isSock_7 (by decide) (fun c2 => ?_) (fun c2 => ?_)
      · rw [if_pos c2] at h
        refine lv_lconst (v := (0 : Int64)) hx hb dL_isSock_14 (by decide) ?_
        refine fw_last hx hb hK hP hE hS dL_isSock_15 (fun H locs hP hS => ?_)
        refine lv_goto (tgt := 22) hx hb dL_isSock_16 (by decide) ?_
        refine lv_iconst (v := (0 : Int32)) hx hb dL_isSock_22 (by decide) ?_
        refine W.widen (k := 1) (n := 6) (Nat.le_of_ble_eq_true rfl) (Nat.le_of_ble_eq_true rfl) ?_
        exact W.iret (v := (0 : Int32)) hx hb hr (fw_el h hP hS) hS.2.2 dL_isSock_23
      · rw [if_neg c2] at h
        refine lv_lconst (v := (1 : Int64)) hx hb dL_isSock_10 (by decide) ?_
        refine lv_goto (tgt := 15) hx hb dL_isSock_11 (by decide) ?_
        refine fw_last hx hb hK hP hE hS dL_isSock_15 (fun H locs hP hS => ?_)
        refine lv_goto (tgt := 22) hx hb dL_isSock_16 (by decide) ?_
        refine lv_iconst (v := (0 : Int32)) hx hb dL_isSock_22 (by decide) ?_
        refine W.widen (k := 1) (n := 6) (Nat.le_of_ble_eq_true rfl) (Nat.le_of_ble_eq_true rfl) ?_
        exact W.iret (v := (0 : Int32)) hx hb hr (fw_el h hP hS) hS.2.2 dL_isSock_23
    · rw [if_neg hk1] at h
      by_cases e1_0 : k1 = 1
      · rw [if_pos e1_0] at h
        subst e1_0
        refine vx_catch (E := "java/lang/IndexOutOfBoundsException") hown [] ⟨0, 16, 19, 13⟩ [] htab (fun _ h9 => absurd h9 List.not_mem_nil) (by decide) (by decide) (hU (Cond.classLink RL 13 "java/lang/IndexOutOfBoundsException") m_338) (va_Nw.use rfl (hSt.1.2.1 _ (by decide +kernel))) hce hcv hcl ?_
        refine lv_astore_n (lv' := [(3, .ref q), (0, .ref (fw_ad E 0 10)), (1, .int x1), (2, .ref (fw_ad E 0 27))]) hx hb dL_isSock_19 rfl hl (by decide) rfl (fun ls hl => ?_)
        refine lv_iconst (v := (1 : Int32)) hx hb dL_isSock_20 (by decide) ?_
        refine W.widen (k := 1) (n := 6) (Nat.le_of_ble_eq_true rfl) (Nat.le_of_ble_eq_true rfl) ?_
        exact W.iret (v := (1 : Int32)) hx hb hr (fw_el h hP hS) hS.2.2 dL_isSock_21
      · rw [if_neg e1_0] at h
        cases h
  subst ha
  have hl := lv_entry ([.ref (fw_ad E 0 10), .int x1, .ref (fw_ad E 0 27)]) (n := 4) (Nat.le_of_ble_eq_true rfl)
  rw [lg_entry_eq]
  generalize (lg_sl ([.ref (fw_ad E 0 10), .int x1, .ref (fw_ad E 0 27)]) ++ List.replicate (4 - (lg_sl ([.ref (fw_ad E 0 10), .int x1, .ref (fw_ad E 0 27)])).length) Slot.unset).toArray = ls at hl ⊢
  exact EN s.heap [] ls hP va_S.rf hl
set_option maxHeartbeats 4000000 in
set_option maxRecDepth 100000 in
theorem k_L_colour (l : Launch) (hst : l.stackTraces = false) {E : fw_E} {o o' : Int64} {d d' : UInt64} (hE : fw_ok E) {μ μ' : fw_M} (x1 : Int32) {r : Int32} (h : f_L_colour μ o d x1 = some (μ', o', d', r)) : Met l yL_colour (Cond.codeWith yL_colour cL_colour 4 (some .int) [(0, 9, 12, 13)] :: fw_U) ({ frames := 8, cells := 1, slots := 6, locals := 132 } : Room) (va_Pc [.ref (fw_ad E 0 10), .int x1, .ref (fw_ad E 0 27)] (fun U => fw_Pre E o d μ U ∧ fw_S2 U)) (fw_Q E o' d' (some (.int r)) μ') 1 6 (fw_A E) := by
  refine va_MetW (cc := cL_colour) (maxL := 4) (ret := some .int) (by decide) rfl ?_
  intro p e s m args below meth c s₁ B hml hv
  obtain ⟨ha, ⟨hK, hP, hSt⟩, hN2⟩ := hv
  have hx := B.exec
  have hb := B.bytes
  have hr := B.returns
  have hts := atoms_spec (ws := (Cond.codeWith yL_colour cL_colour 4 (some .int) [(0, 9, 12, 13)] :: fw_U)) B.pre
  have hU : ∀ w ∈ fw_U, w.before args s = true := fun w hw => hts w (List.mem_cons_of_mem _ hw)
  have htab : c.exceptionTable.toList = [⟨0, 9, 12, 13⟩] := vx_table (x := yL_colour) B (hts _ List.mem_cons_self)
  have hown : s.vm.findClass RL = some m.cls := findClass_of_methodNamed B.named
  have hlocks := B.notSynchronized
  have EN : ∀ (H : Heap) (locs : List Loc) (ls : Array Slot), fw_P E o d μ H → va_S (fw_A E) s.heap H locs → lv_has ls 4 [(0, .ref (fw_ad E 0 10)), (1, .int x1), (2, .ref (fw_ad E 0 27))] → W p l e (headSpec (Cond.codeWith yL_colour cL_colour 4 (some .int) [(0, 9, 12, 13)] :: fw_U) ({ frames := 8, cells := 1, slots := 6, locals := 132 } : Room)).room s m args below meth c H locs 0 0 (MQ below (fw_Q E o' d' (some (.int r)) μ') args s 1 6 (fw_A E)) (F0 m 0 ls []) := by
    intro H locs ls hP hS hl
    unfold f_L_colour at h
    refine lv_aload_n hx hb dL_colour_0 rfl (lv_at hl 2 rfl) ?_
    refine lv_iconst (v := (0 : Int32)) hx hb dL_colour_1 (by decide) ?_
    refine lv_aload_n hx hb dL_colour_2 rfl (lv_at hl 0 rfl) ?_
    refine lv_iload_n hx hb dL_colour_3 rfl (lv_at hl 1 rfl) ?_
    obtain ⟨μ1, r1, k1, hc1, h⟩ := fw_b3_e h
    refine fw_xret (vx_runV (As := [.int x1]) (rest := [.int (0 : Int32), .ref (fw_ad E 0 27)]) ⟨hx, hb, hml, hown, hU⟩ (k_X9_colour l hst hE x1 hc1) (cwV 1 hU (fw_gV m_641 m_642 m_643 m_1 m_644) rfl rfl rfl (by decide +kernel) ⟨(Nat.le_of_ble_eq_true rfl), (Nat.le_of_ble_eq_true rfl)⟩) ⟨fw_blind, fw_recv hK hP (fw_V0 (f := 10) (by decide) (by decide)) rfl rfl, fun U hU9 hW9 => ⟨rfl, fw_pre hK hP hSt hS U hU9 hW9⟩⟩ rfl rfl hl.1 rfl (lv_room (Nat.le_of_ble_eq_true rfl)) dL_colour_4 ⟨(Nat.le_of_ble_eq_true rfl), (Nat.le_of_ble_eq_true rfl)⟩) hS (fun hk1 H locs hP hS => ?_) (fun hk1 H locs q ce hP hS hce hcv hcl => ?_)
    · rw [if_pos hk1] at h
      refine lv_i2l (v := r1.toInt64) hx hb dL_colour_7 rfl ?_
      refine fw_last hx hb hK hP hE hS dL_colour_8 (fun H locs hP hS => ?_)
      refine lv_goto (tgt := 15) hx hb dL_colour_9 (by decide) ?_
      refine lv_iconst (v := (0 : Int32)) hx hb dL_colour_15 (by decide) ?_
      refine W.widen (k := 1) (n := 6) (Nat.le_of_ble_eq_true rfl) (Nat.le_of_ble_eq_true rfl) ?_
      exact W.iret (v := (0 : Int32)) hx hb hr (fw_el h hP hS) hS.2.2 dL_colour_16
    · rw [if_neg hk1] at h
      by_cases e1_0 : k1 = 1
      · rw [if_pos e1_0] at h
        subst e1_0
        refine vx_catch (E := "java/lang/IndexOutOfBoundsException") hown [] ⟨0, 9, 12, 13⟩ [] htab (fun _ h9 => absurd h9 List.not_mem_nil) (by decide) (by decide) (hU (Cond.classLink RL 13 "java/lang/IndexOutOfBoundsException") m_338) (va_Nw.use rfl (hSt.1.2.1 _ (by decide +kernel))) hce hcv hcl ?_
        refine lv_astore_n (lv' := [(3, .ref q), (0, .ref (fw_ad E 0 10)), (1, .int x1), (2, .ref (fw_ad E 0 27))]) hx hb dL_colour_12 rfl hl (by decide) rfl (fun ls hl => ?_)
        refine lv_iconst (v := (1 : Int32)) hx hb dL_colour_13 (by decide) ?_
        refine W.widen (k := 1) (n := 6) (Nat.le_of_ble_eq_true rfl) (Nat.le_of_ble_eq_true rfl) ?_
        exact W.iret (v := (1 : Int32)) hx hb hr (fw_el h hP hS) hS.2.2 dL_colour_14
      · rw [if_neg e1_0] at h
        cases h
  subst ha
  have hl := lv_entry ([.ref (fw_ad E 0 10), .int x1, .ref (fw_ad E 0 27)]) (n := 4) (Nat.le_of_ble_eq_true rfl)
  rw [lg_entry_eq]
  generalize (lg_sl ([.ref (fw_ad E 0 10), .int x1, .ref (fw_ad E 0 27)]) ++ List.replicate (4 - (lg_sl ([.ref (fw_ad E 0 10), .int x1, .ref (fw_ad E 0 27)])).length) Slot.unset).toArray = ls at hl ⊢
  exact EN s.heap [] ls hP va_S.rf hl
set_option maxHeartbeats 4000000 in
set_option maxRecDepth 100000 in
theorem k_L_stains (l : Launch) (hst : l.stackTraces = false) {E : fw_E} {o o' : Int64} {d d' : UInt64} (hE : fw_ok E) {μ μ' : fw_M} (x1 : Int32) {r : Int32} (h : f_L_stains μ o d x1 = some (μ', o', d', r)) : Met l yL_stains (Cond.codeWith yL_stains cL_stains 4 (some .int) [(0, 9, 12, 13)] :: fw_U) ({ frames := 8, cells := 1, slots := 6, locals := 132 } : Room) (va_Pc [.ref (fw_ad E 0 10), .int x1, .ref (fw_ad E 0 27)] (fun U => fw_Pre E o d μ U ∧ fw_S2 U)) (fw_Q E o' d' (some (.int r)) μ') 1 6 (fw_A E) := by
  refine va_MetW (cc := cL_stains) (maxL := 4) (ret := some .int) (by decide) rfl ?_
  intro p e s m args below meth c s₁ B hml hv
  obtain ⟨ha, ⟨hK, hP, hSt⟩, hN2⟩ := hv
  have hx := B.exec
  have hb := B.bytes
  have hr := B.returns
  have hts := atoms_spec (ws := (Cond.codeWith yL_stains cL_stains 4 (some .int) [(0, 9, 12, 13)] :: fw_U)) B.pre
  have hU : ∀ w ∈ fw_U, w.before args s = true := fun w hw => hts w (List.mem_cons_of_mem _ hw)
  have htab : c.exceptionTable.toList = [⟨0, 9, 12, 13⟩] := vx_table (x := yL_stains) B (hts _ List.mem_cons_self)
  have hown : s.vm.findClass RL = some m.cls := findClass_of_methodNamed B.named
  have hlocks := B.notSynchronized
  have EN : ∀ (H : Heap) (locs : List Loc) (ls : Array Slot), fw_P E o d μ H → va_S (fw_A E) s.heap H locs → lv_has ls 4 [(0, .ref (fw_ad E 0 10)), (1, .int x1), (2, .ref (fw_ad E 0 27))] → W p l e (headSpec (Cond.codeWith yL_stains cL_stains 4 (some .int) [(0, 9, 12, 13)] :: fw_U) ({ frames := 8, cells := 1, slots := 6, locals := 132 } : Room)).room s m args below meth c H locs 0 0 (MQ below (fw_Q E o' d' (some (.int r)) μ') args s 1 6 (fw_A E)) (F0 m 0 ls []) := by
    intro H locs ls hP hS hl
    unfold f_L_stains at h
    refine lv_aload_n hx hb dL_stains_0 rfl (lv_at hl 2 rfl) ?_
    refine lv_iconst (v := (0 : Int32)) hx hb dL_stains_1 (by decide) ?_
    refine lv_aload_n hx hb dL_stains_2 rfl (lv_at hl 0 rfl) ?_
    refine lv_iload_n hx hb dL_stains_3 rfl (lv_at hl 1 rfl) ?_
    obtain ⟨μ1, r1, k1, hc1, h⟩ := fw_b3_e h
    refine fw_xret (vx_runV (As := [.int x1]) (rest := [.int (0 : Int32), .ref (fw_ad E 0 27)]) ⟨hx, hb, hml, hown, hU⟩ (k_X9_stains l hst hE x1 hc1) (cwV 1 hU (fw_gV m_648 m_649 m_650 m_1 m_651) rfl rfl rfl (by decide +kernel) ⟨(Nat.le_of_ble_eq_true rfl), (Nat.le_of_ble_eq_true rfl)⟩) ⟨fw_blind, fw_recv hK hP (fw_V0 (f := 10) (by decide) (by decide)) rfl rfl, fun U hU9 hW9 => ⟨rfl, fw_pre hK hP hSt hS U hU9 hW9⟩⟩ rfl rfl hl.1 rfl (lv_room (Nat.le_of_ble_eq_true rfl)) dL_stains_4 ⟨(Nat.le_of_ble_eq_true rfl), (Nat.le_of_ble_eq_true rfl)⟩) hS (fun hk1 H locs hP hS => ?_) (fun hk1 H locs q ce hP hS hce hcv hcl => ?_)
    · rw [if_pos hk1] at h
      refine lv_i2l (v := r1.toInt64) hx hb dL_stains_7 rfl ?_
      refine fw_last hx hb hK hP hE hS dL_stains_8 (fun H locs hP hS => ?_)
      refine lv_goto (tgt := 15) hx hb dL_stains_9 (by decide) ?_
      refine lv_iconst (v := (0 : Int32)) hx hb dL_stains_15 (by decide) ?_
      refine W.widen (k := 1) (n := 6) (Nat.le_of_ble_eq_true rfl) (Nat.le_of_ble_eq_true rfl) ?_
      exact W.iret (v := (0 : Int32)) hx hb hr (fw_el h hP hS) hS.2.2 dL_stains_16
    · rw [if_neg hk1] at h
      by_cases e1_0 : k1 = 1
      · rw [if_pos e1_0] at h
        subst e1_0
        refine vx_catch (E := "java/lang/IndexOutOfBoundsException") hown [] ⟨0, 9, 12, 13⟩ [] htab (fun _ h9 => absurd h9 List.not_mem_nil) (by decide) (by decide) (hU (Cond.classLink RL 13 "java/lang/IndexOutOfBoundsException") m_338) (va_Nw.use rfl (hSt.1.2.1 _ (by decide +kernel))) hce hcv hcl ?_
        refine lv_astore_n (lv' := [(3, .ref q), (0, .ref (fw_ad E 0 10)), (1, .int x1), (2, .ref (fw_ad E 0 27))]) hx hb dL_stains_12 rfl hl (by decide) rfl (fun ls hl => ?_)
        refine lv_iconst (v := (1 : Int32)) hx hb dL_stains_13 (by decide) ?_
        refine W.widen (k := 1) (n := 6) (Nat.le_of_ble_eq_true rfl) (Nat.le_of_ble_eq_true rfl) ?_
        exact W.iret (v := (1 : Int32)) hx hb hr (fw_el h hP hS) hS.2.2 dL_stains_14
      · rw [if_neg e1_0] at h
        cases h
  subst ha
  have hl := lv_entry ([.ref (fw_ad E 0 10), .int x1, .ref (fw_ad E 0 27)]) (n := 4) (Nat.le_of_ble_eq_true rfl)
  rw [lg_entry_eq]
  generalize (lg_sl ([.ref (fw_ad E 0 10), .int x1, .ref (fw_ad E 0 27)]) ++ List.replicate (4 - (lg_sl ([.ref (fw_ad E 0 10), .int x1, .ref (fw_ad E 0 27)])).length) Slot.unset).toArray = ls at hl ⊢
  exact EN s.heap [] ls hP va_S.rf hl
set_option maxHeartbeats 4000000 in
set_option maxRecDepth 100000 in
theorem k_L_stainCount (l : Launch) (hst : l.stackTraces = false) {E : fw_E} {o o' : Int64} {d d' : UInt64} (hE : fw_ok E) {μ μ' : fw_M} (x1 : Int32) {r : Int32} (h : f_L_stainCount μ o d x1 = some (μ', o', d', r)) : Met l yL_stainCount (Cond.codeWith yL_stainCount cL_stainCount 4 (some .int) [(0, 9, 12, 13)] :: fw_U) ({ frames := 8, cells := 1, slots := 6, locals := 132 } : Room) (va_Pc [.ref (fw_ad E 0 10), .int x1, .ref (fw_ad E 0 27)] (fun U => fw_Pre E o d μ U ∧ fw_S2 U)) (fw_Q E o' d' (some (.int r)) μ') 1 6 (fw_A E) := by
  refine va_MetW (cc := cL_stainCount) (maxL := 4) (ret := some .int) (by decide) rfl ?_
  intro p e s m args below meth c s₁ B hml hv
  obtain ⟨ha, ⟨hK, hP, hSt⟩, hN2⟩ := hv
  have hx := B.exec
  have hb := B.bytes
  have hr := B.returns
  have hts := atoms_spec (ws := (Cond.codeWith yL_stainCount cL_stainCount 4 (some .int) [(0, 9, 12, 13)] :: fw_U)) B.pre
  have hU : ∀ w ∈ fw_U, w.before args s = true := fun w hw => hts w (List.mem_cons_of_mem _ hw)
  have htab : c.exceptionTable.toList = [⟨0, 9, 12, 13⟩] := vx_table (x := yL_stainCount) B (hts _ List.mem_cons_self)
  have hown : s.vm.findClass RL = some m.cls := findClass_of_methodNamed B.named
  have hlocks := B.notSynchronized
  have EN : ∀ (H : Heap) (locs : List Loc) (ls : Array Slot), fw_P E o d μ H → va_S (fw_A E) s.heap H locs → lv_has ls 4 [(0, .ref (fw_ad E 0 10)), (1, .int x1), (2, .ref (fw_ad E 0 27))] → W p l e (headSpec (Cond.codeWith yL_stainCount cL_stainCount 4 (some .int) [(0, 9, 12, 13)] :: fw_U) ({ frames := 8, cells := 1, slots := 6, locals := 132 } : Room)).room s m args below meth c H locs 0 0 (MQ below (fw_Q E o' d' (some (.int r)) μ') args s 1 6 (fw_A E)) (F0 m 0 ls []) := by
    intro H locs ls hP hS hl
    unfold f_L_stainCount at h
    refine lv_aload_n hx hb dL_stainCount_0 rfl (lv_at hl 2 rfl) ?_
    refine lv_iconst (v := (0 : Int32)) hx hb dL_stainCount_1 (by decide) ?_
    refine lv_aload_n hx hb dL_stainCount_2 rfl (lv_at hl 0 rfl) ?_
    refine lv_iload_n hx hb dL_stainCount_3 rfl (lv_at hl 1 rfl) ?_
    obtain ⟨μ1, r1, k1, hc1, h⟩ := fw_b3_e h
    refine fw_xret (vx_runV (As := [.int x1]) (rest := [.int (0 : Int32), .ref (fw_ad E 0 27)]) ⟨hx, hb, hml, hown, hU⟩ (k_X9_stainCount l hst hE x1 hc1) (cwV 1 hU (fw_gV m_655 m_656 m_657 m_1 m_658) rfl rfl rfl (by decide +kernel) ⟨(Nat.le_of_ble_eq_true rfl), (Nat.le_of_ble_eq_true rfl)⟩) ⟨fw_blind, fw_recv hK hP (fw_V0 (f := 10) (by decide) (by decide)) rfl rfl, fun U hU9 hW9 => ⟨rfl, fw_pre hK hP hSt hS U hU9 hW9⟩⟩ rfl rfl hl.1 rfl (lv_room (Nat.le_of_ble_eq_true rfl)) dL_stainCount_4 ⟨(Nat.le_of_ble_eq_true rfl), (Nat.le_of_ble_eq_true rfl)⟩) hS (fun hk1 H locs hP hS => ?_) (fun hk1 H locs q ce hP hS hce hcv hcl => ?_)
    · rw [if_pos hk1] at h
      refine lv_i2l (v := r1.toInt64) hx hb dL_stainCount_7 rfl ?_
      refine fw_last hx hb hK hP hE hS dL_stainCount_8 (fun H locs hP hS => ?_)
      refine lv_goto (tgt := 15) hx hb dL_stainCount_9 (by decide) ?_
      refine lv_iconst (v := (0 : Int32)) hx hb dL_stainCount_15 (by decide) ?_
      refine W.widen (k := 1) (n := 6) (Nat.le_of_ble_eq_true rfl) (Nat.le_of_ble_eq_true rfl) ?_
      exact W.iret (v := (0 : Int32)) hx hb hr (fw_el h hP hS) hS.2.2 dL_stainCount_16
    · rw [if_neg hk1] at h
      by_cases e1_0 : k1 = 1
      · rw [if_pos e1_0] at h
        subst e1_0
        refine vx_catch (E := "java/lang/IndexOutOfBoundsException") hown [] ⟨0, 9, 12, 13⟩ [] htab (fun _ h9 => absurd h9 List.not_mem_nil) (by decide) (by decide) (hU (Cond.classLink RL 13 "java/lang/IndexOutOfBoundsException") m_338) (va_Nw.use rfl (hSt.1.2.1 _ (by decide +kernel))) hce hcv hcl ?_
        refine lv_astore_n (lv' := [(3, .ref q), (0, .ref (fw_ad E 0 10)), (1, .int x1), (2, .ref (fw_ad E 0 27))]) hx hb dL_stainCount_12 rfl hl (by decide) rfl (fun ls hl => ?_)
        refine lv_iconst (v := (1 : Int32)) hx hb dL_stainCount_13 (by decide) ?_
        refine W.widen (k := 1) (n := 6) (Nat.le_of_ble_eq_true rfl) (Nat.le_of_ble_eq_true rfl) ?_
        exact W.iret (v := (1 : Int32)) hx hb hr (fw_el h hP hS) hS.2.2 dL_stainCount_14
      · rw [if_neg e1_0] at h
        cases h
  subst ha
  have hl := lv_entry ([.ref (fw_ad E 0 10), .int x1, .ref (fw_ad E 0 27)]) (n := 4) (Nat.le_of_ble_eq_true rfl)
  rw [lg_entry_eq]
  generalize (lg_sl ([.ref (fw_ad E 0 10), .int x1, .ref (fw_ad E 0 27)]) ++ List.replicate (4 - (lg_sl ([.ref (fw_ad E 0 10), .int x1, .ref (fw_ad E 0 27)])).length) Slot.unset).toArray = ls at hl ⊢
  exact EN s.heap [] ls hP va_S.rf hl
set_option maxHeartbeats 4000000 in
set_option maxRecDepth 100000 in
theorem k_L_place (l : Launch) (hst : l.stackTraces = false) {E : fw_E} {o o' : Int64} {d d' : UInt64} (hE : fw_ok E) {μ μ' : fw_M} (x1 : Int32) {r : Int32} (h : f_L_place μ o d x1 = some (μ', o', d', r)) : Met l yL_place (Cond.codeWith yL_place cL_place 4 (some .int) [(0, 9, 12, 13)] :: fw_U) ({ frames := 8, cells := 1, slots := 6, locals := 132 } : Room) (va_Pc [.ref (fw_ad E 0 10), .int x1, .ref (fw_ad E 0 27)] (fun U => fw_Pre E o d μ U ∧ fw_S2 U)) (fw_Q E o' d' (some (.int r)) μ') 1 6 (fw_A E) := by
  refine va_MetW (cc := cL_place) (maxL := 4) (ret := some .int) (by decide) rfl ?_
  intro p e s m args below meth c s₁ B hml hv
  obtain ⟨ha, ⟨hK, hP, hSt⟩, hN2⟩ := hv
  have hx := B.exec
  have hb := B.bytes
  have hr := B.returns
  have hts := atoms_spec (ws := (Cond.codeWith yL_place cL_place 4 (some .int) [(0, 9, 12, 13)] :: fw_U)) B.pre
  have hU : ∀ w ∈ fw_U, w.before args s = true := fun w hw => hts w (List.mem_cons_of_mem _ hw)
  have htab : c.exceptionTable.toList = [⟨0, 9, 12, 13⟩] := vx_table (x := yL_place) B (hts _ List.mem_cons_self)
  have hown : s.vm.findClass RL = some m.cls := findClass_of_methodNamed B.named
  have hlocks := B.notSynchronized
  have EN : ∀ (H : Heap) (locs : List Loc) (ls : Array Slot), fw_P E o d μ H → va_S (fw_A E) s.heap H locs → lv_has ls 4 [(0, .ref (fw_ad E 0 10)), (1, .int x1), (2, .ref (fw_ad E 0 27))] → W p l e (headSpec (Cond.codeWith yL_place cL_place 4 (some .int) [(0, 9, 12, 13)] :: fw_U) ({ frames := 8, cells := 1, slots := 6, locals := 132 } : Room)).room s m args below meth c H locs 0 0 (MQ below (fw_Q E o' d' (some (.int r)) μ') args s 1 6 (fw_A E)) (F0 m 0 ls []) := by
    intro H locs ls hP hS hl
    unfold f_L_place at h
    refine lv_aload_n hx hb dL_place_0 rfl (lv_at hl 2 rfl) ?_
    refine lv_iconst (v := (0 : Int32)) hx hb dL_place_1 (by decide) ?_
    refine lv_aload_n hx hb dL_place_2 rfl (lv_at hl 0 rfl) ?_
    refine lv_iload_n hx hb dL_place_3 rfl (lv_at hl 1 rfl) ?_
    obtain ⟨μ1, r1, k1, hc1, h⟩ := fw_b3_e h
    refine fw_xret (vx_runV (As := [.int x1]) (rest := [.int (0 : Int32), .ref (fw_ad E 0 27)]) ⟨hx, hb, hml, hown, hU⟩ (k_X9_place l hst hE x1 hc1) (cwV 1 hU (fw_gV m_663 m_664 m_665 m_1 m_666) rfl rfl rfl (by decide +kernel) ⟨(Nat.le_of_ble_eq_true rfl), (Nat.le_of_ble_eq_true rfl)⟩) ⟨fw_blind, fw_recv hK hP (fw_V0 (f := 10) (by decide) (by decide)) rfl rfl, fun U hU9 hW9 => ⟨rfl, fw_pre hK hP hSt hS U hU9 hW9⟩⟩ rfl rfl hl.1 rfl (lv_room (Nat.le_of_ble_eq_true rfl)) dL_place_4 ⟨(Nat.le_of_ble_eq_true rfl), (Nat.le_of_ble_eq_true rfl)⟩) hS (fun hk1 H locs hP hS => ?_) (fun hk1 H locs q ce hP hS hce hcv hcl => ?_)
    · rw [if_pos hk1] at h
      refine lv_i2l (v := r1.toInt64) hx hb dL_place_7 rfl ?_
      refine fw_last hx hb hK hP hE hS dL_place_8 (fun H locs hP hS => ?_)
      refine lv_goto (tgt := 15) hx hb dL_place_9 (by decide) ?_
      refine lv_iconst (v := (0 : Int32)) hx hb dL_place_15 (by decide) ?_
      refine W.widen (k := 1) (n := 6) (Nat.le_of_ble_eq_true rfl) (Nat.le_of_ble_eq_true rfl) ?_
      exact W.iret (v := (0 : Int32)) hx hb hr (fw_el h hP hS) hS.2.2 dL_place_16
    · rw [if_neg hk1] at h
      by_cases e1_0 : k1 = 1
      · rw [if_pos e1_0] at h
        subst e1_0
        refine vx_catch (E := "java/lang/IndexOutOfBoundsException") hown [] ⟨0, 9, 12, 13⟩ [] htab (fun _ h9 => absurd h9 List.not_mem_nil) (by decide) (by decide) (hU (Cond.classLink RL 13 "java/lang/IndexOutOfBoundsException") m_338) (va_Nw.use rfl (hSt.1.2.1 _ (by decide +kernel))) hce hcv hcl ?_
        refine lv_astore_n (lv' := [(3, .ref q), (0, .ref (fw_ad E 0 10)), (1, .int x1), (2, .ref (fw_ad E 0 27))]) hx hb dL_place_12 rfl hl (by decide) rfl (fun ls hl => ?_)
        refine lv_iconst (v := (1 : Int32)) hx hb dL_place_13 (by decide) ?_
        refine W.widen (k := 1) (n := 6) (Nat.le_of_ble_eq_true rfl) (Nat.le_of_ble_eq_true rfl) ?_
        exact W.iret (v := (1 : Int32)) hx hb hr (fw_el h hP hS) hS.2.2 dL_place_14
      · rw [if_neg e1_0] at h
        cases h
  subst ha
  have hl := lv_entry ([.ref (fw_ad E 0 10), .int x1, .ref (fw_ad E 0 27)]) (n := 4) (Nat.le_of_ble_eq_true rfl)
  rw [lg_entry_eq]
  generalize (lg_sl ([.ref (fw_ad E 0 10), .int x1, .ref (fw_ad E 0 27)]) ++ List.replicate (4 - (lg_sl ([.ref (fw_ad E 0 10), .int x1, .ref (fw_ad E 0 27)])).length) Slot.unset).toArray = ls at hl ⊢
  exact EN s.heap [] ls hP va_S.rf hl
set_option maxHeartbeats 4000000 in
set_option maxRecDepth 100000 in
theorem k_L_washes (l : Launch) (hst : l.stackTraces = false) {E : fw_E} {o o' : Int64} {d d' : UInt64} (hE : fw_ok E) {μ μ' : fw_M} (x1 : Int32) {r : Int32} (h : f_L_washes μ o d x1 = some (μ', o', d', r)) : Met l yL_washes (Cond.codeWith yL_washes cL_washes 4 (some .int) [(0, 9, 12, 13)] :: fw_U) ({ frames := 8, cells := 1, slots := 6, locals := 132 } : Room) (va_Pc [.ref (fw_ad E 0 10), .int x1, .ref (fw_ad E 0 27)] (fun U => fw_Pre E o d μ U ∧ fw_S2 U)) (fw_Q E o' d' (some (.int r)) μ') 1 6 (fw_A E) := by
  refine va_MetW (cc := cL_washes) (maxL := 4) (ret := some .int) (by decide) rfl ?_
  intro p e s m args below meth c s₁ B hml hv
  obtain ⟨ha, ⟨hK, hP, hSt⟩, hN2⟩ := hv
  have hx := B.exec
  have hb := B.bytes
  have hr := B.returns
  have hts := atoms_spec (ws := (Cond.codeWith yL_washes cL_washes 4 (some .int) [(0, 9, 12, 13)] :: fw_U)) B.pre
  have hU : ∀ w ∈ fw_U, w.before args s = true := fun w hw => hts w (List.mem_cons_of_mem _ hw)
  have htab : c.exceptionTable.toList = [⟨0, 9, 12, 13⟩] := vx_table (x := yL_washes) B (hts _ List.mem_cons_self)
  have hown : s.vm.findClass RL = some m.cls := findClass_of_methodNamed B.named
  have hlocks := B.notSynchronized
  have EN : ∀ (H : Heap) (locs : List Loc) (ls : Array Slot), fw_P E o d μ H → va_S (fw_A E) s.heap H locs → lv_has ls 4 [(0, .ref (fw_ad E 0 10)), (1, .int x1), (2, .ref (fw_ad E 0 27))] → W p l e (headSpec (Cond.codeWith yL_washes cL_washes 4 (some .int) [(0, 9, 12, 13)] :: fw_U) ({ frames := 8, cells := 1, slots := 6, locals := 132 } : Room)).room s m args below meth c H locs 0 0 (MQ below (fw_Q E o' d' (some (.int r)) μ') args s 1 6 (fw_A E)) (F0 m 0 ls []) := by
    intro H locs ls hP hS hl
    unfold f_L_washes at h
    refine lv_aload_n hx hb dL_washes_0 rfl (lv_at hl 2 rfl) ?_
    refine lv_iconst (v := (0 : Int32)) hx hb dL_washes_1 (by decide) ?_
    refine lv_aload_n hx hb dL_washes_2 rfl (lv_at hl 0 rfl) ?_
    refine lv_iload_n hx hb dL_washes_3 rfl (lv_at hl 1 rfl) ?_
    obtain ⟨μ1, r1, k1, hc1, h⟩ := fw_b3_e h
    refine fw_xret (vx_runV (As := [.int x1]) (rest := [.int (0 : Int32), .ref (fw_ad E 0 27)]) ⟨hx, hb, hml, hown, hU⟩ (k_X9_washes l hst hE x1 hc1) (cwV 1 hU (fw_gV m_673 m_674 m_675 m_1 m_676) rfl rfl rfl (by decide +kernel) ⟨(Nat.le_of_ble_eq_true rfl), (Nat.le_of_ble_eq_true rfl)⟩) ⟨fw_blind, fw_recv hK hP (fw_V0 (f := 10) (by decide) (by decide)) rfl rfl, fun U hU9 hW9 => ⟨rfl, fw_pre hK hP hSt hS U hU9 hW9⟩⟩ rfl rfl hl.1 rfl (lv_room (Nat.le_of_ble_eq_true rfl)) dL_washes_4 ⟨(Nat.le_of_ble_eq_true rfl), (Nat.le_of_ble_eq_true rfl)⟩) hS (fun hk1 H locs hP hS => ?_) (fun hk1 H locs q ce hP hS hce hcv hcl => ?_)
    · rw [if_pos hk1] at h
      refine lv_i2l (v := r1.toInt64) hx hb dL_washes_7 rfl ?_
      refine fw_last hx hb hK hP hE hS dL_washes_8 (fun H locs hP hS => ?_)
      refine lv_goto (tgt := 15) hx hb dL_washes_9 (by decide) ?_
      refine lv_iconst (v := (0 : Int32)) hx hb dL_washes_15 (by decide) ?_
      refine W.widen (k := 1) (n := 6) (Nat.le_of_ble_eq_true rfl) (Nat.le_of_ble_eq_true rfl) ?_
      exact W.iret (v := (0 : Int32)) hx hb hr (fw_el h hP hS) hS.2.2 dL_washes_16
    · rw [if_neg hk1] at h
      by_cases e1_0 : k1 = 1
      · rw [if_pos e1_0] at h
        subst e1_0
        refine vx_catch (E := "java/lang/IndexOutOfBoundsException") hown [] ⟨0, 9, 12, 13⟩ [] htab (fun _ h9 => absurd h9 List.not_mem_nil) (by decide) (by decide) (hU (Cond.classLink RL 13 "java/lang/IndexOutOfBoundsException") m_338) (va_Nw.use rfl (hSt.1.2.1 _ (by decide +kernel))) hce hcv hcl ?_
        refine lv_astore_n (lv' := [(3, .ref q), (0, .ref (fw_ad E 0 10)), (1, .int x1), (2, .ref (fw_ad E 0 27))]) hx hb dL_washes_12 rfl hl (by decide) rfl (fun ls hl => ?_)
        refine lv_iconst (v := (1 : Int32)) hx hb dL_washes_13 (by decide) ?_
        refine W.widen (k := 1) (n := 6) (Nat.le_of_ble_eq_true rfl) (Nat.le_of_ble_eq_true rfl) ?_
        exact W.iret (v := (1 : Int32)) hx hb hr (fw_el h hP hS) hS.2.2 dL_washes_14
      · rw [if_neg e1_0] at h
        cases h
  subst ha
  have hl := lv_entry ([.ref (fw_ad E 0 10), .int x1, .ref (fw_ad E 0 27)]) (n := 4) (Nat.le_of_ble_eq_true rfl)
  rw [lg_entry_eq]
  generalize (lg_sl ([.ref (fw_ad E 0 10), .int x1, .ref (fw_ad E 0 27)]) ++ List.replicate (4 - (lg_sl ([.ref (fw_ad E 0 10), .int x1, .ref (fw_ad E 0 27)])).length) Slot.unset).toArray = ls at hl ⊢
  exact EN s.heap [] ls hP va_S.rf hl
set_option maxHeartbeats 4000000 in
set_option maxRecDepth 100000 in
theorem k_L_partner (l : Launch) (hst : l.stackTraces = false) {E : fw_E} {o o' : Int64} {d d' : UInt64} (hE : fw_ok E) {μ μ' : fw_M} (x1 : Int32) {r : Int32} (h : f_L_partner μ o d x1 = some (μ', o', d', r)) : Met l yL_partner (Cond.codeWith yL_partner cL_partner 4 (some .int) [(0, 9, 12, 13), (0, 9, 15, 23), (0, 9, 18, 62)] :: fw_U) ({ frames := 8, cells := 2, slots := 12, locals := 133 } : Room) (va_Pc [.ref (fw_ad E 0 10), .int x1, .ref (fw_ad E 0 27)] (fun U => fw_Pre E o d μ U ∧ fw_S2 U)) (fw_Q E o' d' (some (.int r)) μ') 2 12 (fw_A E) := by
  refine va_MetW (cc := cL_partner) (maxL := 4) (ret := some .int) (by decide) rfl ?_
  intro p e s m args below meth c s₁ B hml hv
  obtain ⟨ha, ⟨hK, hP, hSt⟩, hN2⟩ := hv
  have hx := B.exec
  have hb := B.bytes
  have hr := B.returns
  have hts := atoms_spec (ws := (Cond.codeWith yL_partner cL_partner 4 (some .int) [(0, 9, 12, 13), (0, 9, 15, 23), (0, 9, 18, 62)] :: fw_U)) B.pre
  have hU : ∀ w ∈ fw_U, w.before args s = true := fun w hw => hts w (List.mem_cons_of_mem _ hw)
  have htab : c.exceptionTable.toList = [⟨0, 9, 12, 13⟩, ⟨0, 9, 15, 23⟩, ⟨0, 9, 18, 62⟩] := vx_table (x := yL_partner) B (hts _ List.mem_cons_self)
  have hown : s.vm.findClass RL = some m.cls := findClass_of_methodNamed B.named
  have hlocks := B.notSynchronized
  have EN : ∀ (H : Heap) (locs : List Loc) (ls : Array Slot), fw_P E o d μ H → va_S (fw_A E) s.heap H locs → lv_has ls 4 [(0, .ref (fw_ad E 0 10)), (1, .int x1), (2, .ref (fw_ad E 0 27))] → W p l e (headSpec (Cond.codeWith yL_partner cL_partner 4 (some .int) [(0, 9, 12, 13), (0, 9, 15, 23), (0, 9, 18, 62)] :: fw_U) ({ frames := 8, cells := 2, slots := 12, locals := 133 } : Room)).room s m args below meth c H locs 0 0 (MQ below (fw_Q E o' d' (some (.int r)) μ') args s 2 12 (fw_A E)) (F0 m 0 ls []) := by
    intro H locs ls hP hS hl
    unfold f_L_partner at h
    refine lv_aload_n hx hb dL_partner_0 rfl (lv_at hl 2 rfl) ?_
    refine lv_iconst (v := (0 : Int32)) hx hb dL_partner_1 (by decide) ?_
    refine lv_aload_n hx hb dL_partner_2 rfl (lv_at hl 0 rfl) ?_
    refine lv_iload_n hx hb dL_partner_3 rfl (lv_at hl 1 rfl) ?_
    obtain ⟨μ1, r1, k1, hc1, h⟩ := fw_b3_e h
    refine fw_xret (vx_runV (As := [.int x1]) (rest := [.int (0 : Int32), .ref (fw_ad E 0 27)]) ⟨hx, hb, hml, hown, hU⟩ (k_X9_partner l hst hE x1 hc1) (cwV 1 hU (fw_gV m_681 m_682 m_683 m_1 m_684) rfl rfl rfl (by decide +kernel) ⟨(Nat.le_of_ble_eq_true rfl), (Nat.le_of_ble_eq_true rfl)⟩) ⟨fw_blind, fw_recv hK hP (fw_V0 (f := 10) (by decide) (by decide)) rfl rfl, fun U hU9 hW9 => ⟨rfl, fw_pre hK hP hSt hS U hU9 hW9⟩⟩ rfl rfl hl.1 rfl (lv_room (Nat.le_of_ble_eq_true rfl)) dL_partner_4 ⟨(Nat.le_of_ble_eq_true rfl), (Nat.le_of_ble_eq_true rfl)⟩) hS (fun hk1 H locs hP hS => ?_) (fun hk1 H locs q ce hP hS hce hcv hcl => ?_)
    · rw [if_pos hk1] at h
      refine lv_i2l (v := r1.toInt64) hx hb dL_partner_7 rfl ?_
      refine fw_last hx hb hK hP hE hS dL_partner_8 (fun H locs hP hS => ?_)
      refine lv_goto (tgt := 21) hx hb dL_partner_9 (by decide) ?_
      refine lv_iconst (v := (0 : Int32)) hx hb dL_partner_21 (by decide) ?_
      refine W.widen (k := 2) (n := 12) (Nat.le_of_ble_eq_true rfl) (Nat.le_of_ble_eq_true rfl) ?_
      exact W.iret (v := (0 : Int32)) hx hb hr (fw_el h hP hS) hS.2.2 dL_partner_22
    · rw [if_neg hk1] at h
      by_cases e1_0 : k1 = 1
      · rw [if_pos e1_0] at h
        subst e1_0
        refine vx_catch (E := "java/lang/IndexOutOfBoundsException") hown [] ⟨0, 9, 12, 13⟩ [⟨0, 9, 15, 23⟩, ⟨0, 9, 18, 62⟩] htab (fun _ h9 => absurd h9 List.not_mem_nil) (by decide) (by decide) (hU (Cond.classLink RL 13 "java/lang/IndexOutOfBoundsException") m_338) (va_Nw.use rfl (hSt.1.2.1 _ (by decide +kernel))) hce hcv hcl ?_
        refine lv_astore_n (lv' := [(3, .ref q), (0, .ref (fw_ad E 0 10)), (1, .int x1), (2, .ref (fw_ad E 0 27))]) hx hb dL_partner_12 rfl hl (by decide) rfl (fun ls hl => ?_)
        refine lv_iconst (v := (1 : Int32)) hx hb dL_partner_13 (by decide) ?_
        refine W.widen (k := 2) (n := 12) (Nat.le_of_ble_eq_true rfl) (Nat.le_of_ble_eq_true rfl) ?_
        exact W.iret (v := (1 : Int32)) hx hb hr (fw_el h hP hS) hS.2.2 dL_partner_14
      · rw [if_neg e1_0] at h
        by_cases e1_1 : k1 = 4
        · rw [if_pos e1_1] at h
          subst e1_1
          refine vx_catch (E := "java/lang/UnsupportedOperationException") hown [⟨0, 9, 12, 13⟩] ⟨0, 9, 15, 23⟩ [⟨0, 9, 18, 62⟩] htab (fun z h9 => by rw [List.mem_singleton.mp h9]; exact Or.inr ⟨by decide, "java/lang/IndexOutOfBoundsException", (hU (Cond.classLink RL 13 "java/lang/IndexOutOfBoundsException") m_338), hN2 _ (List.mem_of_getElem? (i := 4) rfl)⟩) (by decide) (by decide) (hU (Cond.classLink RL 23 "java/lang/UnsupportedOperationException") m_535) (va_Nw.use rfl (hSt.1.2.1 _ (by decide +kernel))) hce hcv hcl ?_
          refine lv_astore_n (lv' := [(3, .ref q), (0, .ref (fw_ad E 0 10)), (1, .int x1), (2, .ref (fw_ad E 0 27))]) hx hb dL_partner_15 rfl hl (by decide) rfl (fun ls hl => ?_)
          refine lv_iconst (v := (2 : Int32)) hx hb dL_partner_16 (by decide) ?_
          refine W.widen (k := 2) (n := 12) (Nat.le_of_ble_eq_true rfl) (Nat.le_of_ble_eq_true rfl) ?_
          exact W.iret (v := (2 : Int32)) hx hb hr (fw_el h hP hS) hS.2.2 dL_partner_17
        · rw [if_neg e1_1] at h
          by_cases e1_2 : k1 = 5
          · rw [if_pos e1_2] at h
            subst e1_2
            refine vx_catch (E := "java/util/NoSuchElementException") hown [⟨0, 9, 12, 13⟩, ⟨0, 9, 15, 23⟩] ⟨0, 9, 18, 62⟩ [] htab (fun z h9 => by rcases List.mem_cons.mp h9 with rfl | h9; exact Or.inr ⟨by decide, "java/lang/IndexOutOfBoundsException", (hU (Cond.classLink RL 13 "java/lang/IndexOutOfBoundsException") m_338), hN2 _ (List.mem_of_getElem? (i := 5) rfl)⟩; rw [List.mem_singleton.mp h9]; exact Or.inr ⟨by decide, "java/lang/UnsupportedOperationException", (hU (Cond.classLink RL 23 "java/lang/UnsupportedOperationException") m_535), hN2 _ (List.mem_of_getElem? (i := 6) rfl)⟩) (by decide) (by decide) (hU (Cond.classLink RL 62 "java/util/NoSuchElementException") m_680) (va_Nw.use rfl (hSt.1.2.1 _ (by decide +kernel))) hce hcv hcl ?_
            refine lv_astore_n (lv' := [(3, .ref q), (0, .ref (fw_ad E 0 10)), (1, .int x1), (2, .ref (fw_ad E 0 27))]) hx hb dL_partner_18 rfl hl (by decide) rfl (fun ls hl => ?_)
            refine lv_iconst (v := (3 : Int32)) hx hb dL_partner_19 (by decide) ?_
            refine W.widen (k := 2) (n := 12) (Nat.le_of_ble_eq_true rfl) (Nat.le_of_ble_eq_true rfl) ?_
            exact W.iret (v := (3 : Int32)) hx hb hr (fw_el h hP hS) hS.2.2 dL_partner_20
          · rw [if_neg e1_2] at h
            cases h
  subst ha
  have hl := lv_entry ([.ref (fw_ad E 0 10), .int x1, .ref (fw_ad E 0 27)]) (n := 4) (Nat.le_of_ble_eq_true rfl)
  rw [lg_entry_eq]
  generalize (lg_sl ([.ref (fw_ad E 0 10), .int x1, .ref (fw_ad E 0 27)]) ++ List.replicate (4 - (lg_sl ([.ref (fw_ad E 0 10), .int x1, .ref (fw_ad E 0 27)])).length) Slot.unset).toArray = ls at hl ⊢
  exact EN s.heap [] ls hP va_S.rf hl
set_option maxHeartbeats 4000000 in
set_option maxRecDepth 100000 in
theorem k_L_pairCount (l : Launch) (hst : l.stackTraces = false) {E : fw_E} {o o' : Int64} {d d' : UInt64} (hE : fw_ok E) {μ μ' : fw_M} (x1 : Int32) {r : Int32} (h : f_L_pairCount μ o d x1 = some (μ', o', d', r)) : Met l yL_pairCount (Cond.codeWith yL_pairCount cL_pairCount 4 (some .int) [(0, 9, 12, 13)] :: fw_U) ({ frames := 8, cells := 1, slots := 6, locals := 131 } : Room) (va_Pc [.ref (fw_ad E 0 10), .int x1, .ref (fw_ad E 0 27)] (fun U => fw_Pre E o d μ U ∧ fw_S2 U)) (fw_Q E o' d' (some (.int r)) μ') 1 6 (fw_A E) := by
  refine va_MetW (cc := cL_pairCount) (maxL := 4) (ret := some .int) (by decide) rfl ?_
  intro p e s m args below meth c s₁ B hml hv
  obtain ⟨ha, ⟨hK, hP, hSt⟩, hN2⟩ := hv
  have hx := B.exec
  have hb := B.bytes
  have hr := B.returns
  have hts := atoms_spec (ws := (Cond.codeWith yL_pairCount cL_pairCount 4 (some .int) [(0, 9, 12, 13)] :: fw_U)) B.pre
  have hU : ∀ w ∈ fw_U, w.before args s = true := fun w hw => hts w (List.mem_cons_of_mem _ hw)
  have htab : c.exceptionTable.toList = [⟨0, 9, 12, 13⟩] := vx_table (x := yL_pairCount) B (hts _ List.mem_cons_self)
  have hown : s.vm.findClass RL = some m.cls := findClass_of_methodNamed B.named
  have hlocks := B.notSynchronized
  have EN : ∀ (H : Heap) (locs : List Loc) (ls : Array Slot), fw_P E o d μ H → va_S (fw_A E) s.heap H locs → lv_has ls 4 [(0, .ref (fw_ad E 0 10)), (1, .int x1), (2, .ref (fw_ad E 0 27))] → W p l e (headSpec (Cond.codeWith yL_pairCount cL_pairCount 4 (some .int) [(0, 9, 12, 13)] :: fw_U) ({ frames := 8, cells := 1, slots := 6, locals := 131 } : Room)).room s m args below meth c H locs 0 0 (MQ below (fw_Q E o' d' (some (.int r)) μ') args s 1 6 (fw_A E)) (F0 m 0 ls []) := by
    intro H locs ls hP hS hl
    unfold f_L_pairCount at h
    refine lv_aload_n hx hb dL_pairCount_0 rfl (lv_at hl 2 rfl) ?_
    refine lv_iconst (v := (0 : Int32)) hx hb dL_pairCount_1 (by decide) ?_
    refine lv_aload_n hx hb dL_pairCount_2 rfl (lv_at hl 0 rfl) ?_
    refine lv_iload_n hx hb dL_pairCount_3 rfl (lv_at hl 1 rfl) ?_
    obtain ⟨μ1, r1, k1, hc1, h⟩ := fw_b3_e h
    refine fw_xret (vx_runV (As := [.int x1]) (rest := [.int (0 : Int32), .ref (fw_ad E 0 27)]) ⟨hx, hb, hml, hown, hU⟩ (k_X9_pairCount l hst hE x1 hc1) (cwV 1 hU (fw_gV m_706 m_707 m_708 m_1 m_709) rfl rfl rfl (by decide +kernel) ⟨(Nat.le_of_ble_eq_true rfl), (Nat.le_of_ble_eq_true rfl)⟩) ⟨fw_blind, fw_recv hK hP (fw_V0 (f := 10) (by decide) (by decide)) rfl rfl, fun U hU9 hW9 => ⟨rfl, fw_pre hK hP hSt hS U hU9 hW9⟩⟩ rfl rfl hl.1 rfl (lv_room (Nat.le_of_ble_eq_true rfl)) dL_pairCount_4 ⟨(Nat.le_of_ble_eq_true rfl), (Nat.le_of_ble_eq_true rfl)⟩) hS (fun hk1 H locs hP hS => ?_) (fun hk1 H locs q ce hP hS hce hcv hcl => ?_)
    · rw [if_pos hk1] at h
      refine lv_i2l (v := r1.toInt64) hx hb dL_pairCount_7 rfl ?_
      refine fw_last hx hb hK hP hE hS dL_pairCount_8 (fun H locs hP hS => ?_)
      refine lv_goto (tgt := 15) hx hb dL_pairCount_9 (by decide) ?_
      refine lv_iconst (v := (0 : Int32)) hx hb dL_pairCount_15 (by decide) ?_
      refine W.widen (k := 1) (n := 6) (Nat.le_of_ble_eq_true rfl) (Nat.le_of_ble_eq_true rfl) ?_
      exact W.iret (v := (0 : Int32)) hx hb hr (fw_el h hP hS) hS.2.2 dL_pairCount_16
    · rw [if_neg hk1] at h
      by_cases e1_0 : k1 = 1
      · rw [if_pos e1_0] at h
        subst e1_0
        refine vx_catch (E := "java/lang/IndexOutOfBoundsException") hown [] ⟨0, 9, 12, 13⟩ [] htab (fun _ h9 => absurd h9 List.not_mem_nil) (by decide) (by decide) (hU (Cond.classLink RL 13 "java/lang/IndexOutOfBoundsException") m_338) (va_Nw.use rfl (hSt.1.2.1 _ (by decide +kernel))) hce hcv hcl ?_
        refine lv_astore_n (lv' := [(3, .ref q), (0, .ref (fw_ad E 0 10)), (1, .int x1), (2, .ref (fw_ad E 0 27))]) hx hb dL_pairCount_12 rfl hl (by decide) rfl (fun ls hl => ?_)
        refine lv_iconst (v := (1 : Int32)) hx hb dL_pairCount_13 (by decide) ?_
        refine W.widen (k := 1) (n := 6) (Nat.le_of_ble_eq_true rfl) (Nat.le_of_ble_eq_true rfl) ?_
        exact W.iret (v := (1 : Int32)) hx hb hr (fw_el h hP hS) hS.2.2 dL_pairCount_14
      · rw [if_neg e1_0] at h
        cases h
  subst ha
  have hl := lv_entry ([.ref (fw_ad E 0 10), .int x1, .ref (fw_ad E 0 27)]) (n := 4) (Nat.le_of_ble_eq_true rfl)
  rw [lg_entry_eq]
  generalize (lg_sl ([.ref (fw_ad E 0 10), .int x1, .ref (fw_ad E 0 27)]) ++ List.replicate (4 - (lg_sl ([.ref (fw_ad E 0 10), .int x1, .ref (fw_ad E 0 27)])).length) Slot.unset).toArray = ls at hl ⊢
  exact EN s.heap [] ls hP va_S.rf hl
set_option maxHeartbeats 4000000 in
set_option maxRecDepth 100000 in
theorem k_L_pairCountByParity (l : Launch) (hst : l.stackTraces = false) {E : fw_E} {o o' : Int64} {d d' : UInt64} (hE : fw_ok E) {μ μ' : fw_M} (x1 : Int32) {r : Int32} (h : f_L_pairCountByParity μ o d x1 = some (μ', o', d', r)) : Met l yL_pairCountByParity (Cond.codeWith yL_pairCountByParity cL_pairCountByParity 4 (some .int) [(0, 9, 12, 13)] :: fw_U) ({ frames := 8, cells := 1, slots := 6, locals := 131 } : Room) (va_Pc [.ref (fw_ad E 0 10), .int x1, .ref (fw_ad E 0 27)] (fun U => fw_Pre E o d μ U ∧ fw_S2 U)) (fw_Q E o' d' (some (.int r)) μ') 1 6 (fw_A E) := by
  refine va_MetW (cc := cL_pairCountByParity) (maxL := 4) (ret := some .int) (by decide) rfl ?_
  intro p e s m args below meth c s₁ B hml hv
  obtain ⟨ha, ⟨hK, hP, hSt⟩, hN2⟩ := hv
  have hx := B.exec
  have hb := B.bytes
  have hr := B.returns
  have hts := atoms_spec (ws := (Cond.codeWith yL_pairCountByParity cL_pairCountByParity 4 (some .int) [(0, 9, 12, 13)] :: fw_U)) B.pre
  have hU : ∀ w ∈ fw_U, w.before args s = true := fun w hw => hts w (List.mem_cons_of_mem _ hw)
  have htab : c.exceptionTable.toList = [⟨0, 9, 12, 13⟩] := vx_table (x := yL_pairCountByParity) B (hts _ List.mem_cons_self)
  have hown : s.vm.findClass RL = some m.cls := findClass_of_methodNamed B.named
  have hlocks := B.notSynchronized
  have EN : ∀ (H : Heap) (locs : List Loc) (ls : Array Slot), fw_P E o d μ H → va_S (fw_A E) s.heap H locs → lv_has ls 4 [(0, .ref (fw_ad E 0 10)), (1, .int x1), (2, .ref (fw_ad E 0 27))] → W p l e (headSpec (Cond.codeWith yL_pairCountByParity cL_pairCountByParity 4 (some .int) [(0, 9, 12, 13)] :: fw_U) ({ frames := 8, cells := 1, slots := 6, locals := 131 } : Room)).room s m args below meth c H locs 0 0 (MQ below (fw_Q E o' d' (some (.int r)) μ') args s 1 6 (fw_A E)) (F0 m 0 ls []) := by
    intro H locs ls hP hS hl
    unfold f_L_pairCountByParity at h
    refine lv_aload_n hx hb dL_pairCountByParity_0 rfl (lv_at hl 2 rfl) ?_
    refine lv_iconst (v := (0 : Int32)) hx hb dL_pairCountByParity_1 (by decide) ?_
    refine lv_aload_n hx hb dL_pairCountByParity_2 rfl (lv_at hl 0 rfl) ?_
    refine lv_iload_n hx hb dL_pairCountByParity_3 rfl (lv_at hl 1 rfl) ?_
    obtain ⟨μ1, r1, k1, hc1, h⟩ := fw_b3_e h
    refine fw_xret (vx_runV (As := [.int x1]) (rest := [.int (0 : Int32), .ref (fw_ad E 0 27)]) ⟨hx, hb, hml, hown, hU⟩ (k_X9_pairCountByParity l hst hE x1 hc1) (cwV 1 hU (fw_gV m_718 m_719 m_720 m_1 m_721) rfl rfl rfl (by decide +kernel) ⟨(Nat.le_of_ble_eq_true rfl), (Nat.le_of_ble_eq_true rfl)⟩) ⟨fw_blind, fw_recv hK hP (fw_V0 (f := 10) (by decide) (by decide)) rfl rfl, fun U hU9 hW9 => ⟨rfl, fw_pre hK hP hSt hS U hU9 hW9⟩⟩ rfl rfl hl.1 rfl (lv_room (Nat.le_of_ble_eq_true rfl)) dL_pairCountByParity_4 ⟨(Nat.le_of_ble_eq_true rfl), (Nat.le_of_ble_eq_true rfl)⟩) hS (fun hk1 H locs hP hS => ?_) (fun hk1 H locs q ce hP hS hce hcv hcl => ?_)
    · rw [if_pos hk1] at h
      refine lv_i2l (v := r1.toInt64) hx hb dL_pairCountByParity_7 rfl ?_
      refine fw_last hx hb hK hP hE hS dL_pairCountByParity_8 (fun H locs hP hS => ?_)
      refine lv_goto (tgt := 15) hx hb dL_pairCountByParity_9 (by decide) ?_
      refine lv_iconst (v := (0 : Int32)) hx hb dL_pairCountByParity_15 (by decide) ?_
      refine W.widen (k := 1) (n := 6) (Nat.le_of_ble_eq_true rfl) (Nat.le_of_ble_eq_true rfl) ?_
      exact W.iret (v := (0 : Int32)) hx hb hr (fw_el h hP hS) hS.2.2 dL_pairCountByParity_16
    · rw [if_neg hk1] at h
      by_cases e1_0 : k1 = 1
      · rw [if_pos e1_0] at h
        subst e1_0
        refine vx_catch (E := "java/lang/IndexOutOfBoundsException") hown [] ⟨0, 9, 12, 13⟩ [] htab (fun _ h9 => absurd h9 List.not_mem_nil) (by decide) (by decide) (hU (Cond.classLink RL 13 "java/lang/IndexOutOfBoundsException") m_338) (va_Nw.use rfl (hSt.1.2.1 _ (by decide +kernel))) hce hcv hcl ?_
        refine lv_astore_n (lv' := [(3, .ref q), (0, .ref (fw_ad E 0 10)), (1, .int x1), (2, .ref (fw_ad E 0 27))]) hx hb dL_pairCountByParity_12 rfl hl (by decide) rfl (fun ls hl => ?_)
        refine lv_iconst (v := (1 : Int32)) hx hb dL_pairCountByParity_13 (by decide) ?_
        refine W.widen (k := 1) (n := 6) (Nat.le_of_ble_eq_true rfl) (Nat.le_of_ble_eq_true rfl) ?_
        exact W.iret (v := (1 : Int32)) hx hb hr (fw_el h hP hS) hS.2.2 dL_pairCountByParity_14
      · rw [if_neg e1_0] at h
        cases h
  subst ha
  have hl := lv_entry ([.ref (fw_ad E 0 10), .int x1, .ref (fw_ad E 0 27)]) (n := 4) (Nat.le_of_ble_eq_true rfl)
  rw [lg_entry_eq]
  generalize (lg_sl ([.ref (fw_ad E 0 10), .int x1, .ref (fw_ad E 0 27)]) ++ List.replicate (4 - (lg_sl ([.ref (fw_ad E 0 10), .int x1, .ref (fw_ad E 0 27)])).length) Slot.unset).toArray = ls at hl ⊢
  exact EN s.heap [] ls hP va_S.rf hl
set_option maxHeartbeats 4000000 in
set_option maxRecDepth 100000 in
theorem k_L_inBag (l : Launch) (hst : l.stackTraces = false) {E : fw_E} {o o' : Int64} {d d' : UInt64} (hE : fw_ok E) {μ μ' : fw_M} (x1 : Int32) {r : Int32} (h : f_L_inBag μ o d x1 = some (μ', o', d', r)) : Met l yL_inBag (Cond.codeWith yL_inBag cL_inBag 4 (some .int) [(0, 9, 12, 13)] :: fw_U) ({ frames := 8, cells := 1, slots := 6, locals := 131 } : Room) (va_Pc [.ref (fw_ad E 0 10), .int x1, .ref (fw_ad E 0 27)] (fun U => fw_Pre E o d μ U ∧ fw_S2 U)) (fw_Q E o' d' (some (.int r)) μ') 1 6 (fw_A E) := by
  refine va_MetW (cc := cL_inBag) (maxL := 4) (ret := some .int) (by decide) rfl ?_
  intro p e s m args below meth c s₁ B hml hv
  obtain ⟨ha, ⟨hK, hP, hSt⟩, hN2⟩ := hv
  have hx := B.exec
  have hb := B.bytes
  have hr := B.returns
  have hts := atoms_spec (ws := (Cond.codeWith yL_inBag cL_inBag 4 (some .int) [(0, 9, 12, 13)] :: fw_U)) B.pre
  have hU : ∀ w ∈ fw_U, w.before args s = true := fun w hw => hts w (List.mem_cons_of_mem _ hw)
  have htab : c.exceptionTable.toList = [⟨0, 9, 12, 13⟩] := vx_table (x := yL_inBag) B (hts _ List.mem_cons_self)
  have hown : s.vm.findClass RL = some m.cls := findClass_of_methodNamed B.named
  have hlocks := B.notSynchronized
  have EN : ∀ (H : Heap) (locs : List Loc) (ls : Array Slot), fw_P E o d μ H → va_S (fw_A E) s.heap H locs → lv_has ls 4 [(0, .ref (fw_ad E 0 10)), (1, .int x1), (2, .ref (fw_ad E 0 27))] → W p l e (headSpec (Cond.codeWith yL_inBag cL_inBag 4 (some .int) [(0, 9, 12, 13)] :: fw_U) ({ frames := 8, cells := 1, slots := 6, locals := 131 } : Room)).room s m args below meth c H locs 0 0 (MQ below (fw_Q E o' d' (some (.int r)) μ') args s 1 6 (fw_A E)) (F0 m 0 ls []) := by
    intro H locs ls hP hS hl
    unfold f_L_inBag at h
    refine lv_aload_n hx hb dL_inBag_0 rfl (lv_at hl 2 rfl) ?_
    refine lv_iconst (v := (0 : Int32)) hx hb dL_inBag_1 (by decide) ?_
    refine lv_aload_n hx hb dL_inBag_2 rfl (lv_at hl 0 rfl) ?_
    refine lv_iload_n hx hb dL_inBag_3 rfl (lv_at hl 1 rfl) ?_
    obtain ⟨μ1, r1, k1, hc1, h⟩ := fw_b3_e h
    refine fw_xret (vx_runV (As := [.int x1]) (rest := [.int (0 : Int32), .ref (fw_ad E 0 27)]) ⟨hx, hb, hml, hown, hU⟩ (k_X9_inBag l hst hE x1 hc1) (cwV 1 hU (fw_gV m_725 m_726 m_727 m_1 m_728) rfl rfl rfl (by decide +kernel) ⟨(Nat.le_of_ble_eq_true rfl), (Nat.le_of_ble_eq_true rfl)⟩) ⟨fw_blind, fw_recv hK hP (fw_V0 (f := 10) (by decide) (by decide)) rfl rfl, fun U hU9 hW9 => ⟨rfl, fw_pre hK hP hSt hS U hU9 hW9⟩⟩ rfl rfl hl.1 rfl (lv_room (Nat.le_of_ble_eq_true rfl)) dL_inBag_4 ⟨(Nat.le_of_ble_eq_true rfl), (Nat.le_of_ble_eq_true rfl)⟩) hS (fun hk1 H locs hP hS => ?_) (fun hk1 H locs q ce hP hS hce hcv hcl => ?_)
    · rw [if_pos hk1] at h
      refine lv_i2l (v := r1.toInt64) hx hb dL_inBag_7 rfl ?_
      refine fw_last hx hb hK hP hE hS dL_inBag_8 (fun H locs hP hS => ?_)
      refine lv_goto (tgt := 15) hx hb dL_inBag_9 (by decide) ?_
      refine lv_iconst (v := (0 : Int32)) hx hb dL_inBag_15 (by decide) ?_
      refine W.widen (k := 1) (n := 6) (Nat.le_of_ble_eq_true rfl) (Nat.le_of_ble_eq_true rfl) ?_
      exact W.iret (v := (0 : Int32)) hx hb hr (fw_el h hP hS) hS.2.2 dL_inBag_16
    · rw [if_neg hk1] at h
      by_cases e1_0 : k1 = 1
      · rw [if_pos e1_0] at h
        subst e1_0
        refine vx_catch (E := "java/lang/IndexOutOfBoundsException") hown [] ⟨0, 9, 12, 13⟩ [] htab (fun _ h9 => absurd h9 List.not_mem_nil) (by decide) (by decide) (hU (Cond.classLink RL 13 "java/lang/IndexOutOfBoundsException") m_338) (va_Nw.use rfl (hSt.1.2.1 _ (by decide +kernel))) hce hcv hcl ?_
        refine lv_astore_n (lv' := [(3, .ref q), (0, .ref (fw_ad E 0 10)), (1, .int x1), (2, .ref (fw_ad E 0 27))]) hx hb dL_inBag_12 rfl hl (by decide) rfl (fun ls hl => ?_)
        refine lv_iconst (v := (1 : Int32)) hx hb dL_inBag_13 (by decide) ?_
        refine W.widen (k := 1) (n := 6) (Nat.le_of_ble_eq_true rfl) (Nat.le_of_ble_eq_true rfl) ?_
        exact W.iret (v := (1 : Int32)) hx hb hr (fw_el h hP hS) hS.2.2 dL_inBag_14
      · rw [if_neg e1_0] at h
        cases h
  subst ha
  have hl := lv_entry ([.ref (fw_ad E 0 10), .int x1, .ref (fw_ad E 0 27)]) (n := 4) (Nat.le_of_ble_eq_true rfl)
  rw [lg_entry_eq]
  generalize (lg_sl ([.ref (fw_ad E 0 10), .int x1, .ref (fw_ad E 0 27)]) ++ List.replicate (4 - (lg_sl ([.ref (fw_ad E 0 10), .int x1, .ref (fw_ad E 0 27)])).length) Slot.unset).toArray = ls at hl ⊢
  exact EN s.heap [] ls hP va_S.rf hl
set_option maxHeartbeats 4000000 in
set_option maxRecDepth 100000 in
theorem k_L_inMachine (l : Launch) (hst : l.stackTraces = false) {E : fw_E} {o o' : Int64} {d d' : UInt64} (hE : fw_ok E) {μ μ' : fw_M} (x1 : Int32) {r : Int32} (h : f_L_inMachine μ o d x1 = some (μ', o', d', r)) : Met l yL_inMachine (Cond.codeWith yL_inMachine cL_inMachine 4 (some .int) [(0, 9, 12, 13)] :: fw_U) ({ frames := 8, cells := 1, slots := 6, locals := 131 } : Room) (va_Pc [.ref (fw_ad E 0 10), .int x1, .ref (fw_ad E 0 27)] (fun U => fw_Pre E o d μ U ∧ fw_S2 U)) (fw_Q E o' d' (some (.int r)) μ') 1 6 (fw_A E) := by
  refine va_MetW (cc := cL_inMachine) (maxL := 4) (ret := some .int) (by decide) rfl ?_
  intro p e s m args below meth c s₁ B hml hv
  obtain ⟨ha, ⟨hK, hP, hSt⟩, hN2⟩ := hv
  have hx := B.exec
  have hb := B.bytes
  have hr := B.returns
  have hts := atoms_spec (ws := (Cond.codeWith yL_inMachine cL_inMachine 4 (some .int) [(0, 9, 12, 13)] :: fw_U)) B.pre
  have hU : ∀ w ∈ fw_U, w.before args s = true := fun w hw => hts w (List.mem_cons_of_mem _ hw)
  have htab : c.exceptionTable.toList = [⟨0, 9, 12, 13⟩] := vx_table (x := yL_inMachine) B (hts _ List.mem_cons_self)
  have hown : s.vm.findClass RL = some m.cls := findClass_of_methodNamed B.named
  have hlocks := B.notSynchronized
  have EN : ∀ (H : Heap) (locs : List Loc) (ls : Array Slot), fw_P E o d μ H → va_S (fw_A E) s.heap H locs → lv_has ls 4 [(0, .ref (fw_ad E 0 10)), (1, .int x1), (2, .ref (fw_ad E 0 27))] → W p l e (headSpec (Cond.codeWith yL_inMachine cL_inMachine 4 (some .int) [(0, 9, 12, 13)] :: fw_U) ({ frames := 8, cells := 1, slots := 6, locals := 131 } : Room)).room s m args below meth c H locs 0 0 (MQ below (fw_Q E o' d' (some (.int r)) μ') args s 1 6 (fw_A E)) (F0 m 0 ls []) := by
    intro H locs ls hP hS hl
    unfold f_L_inMachine at h
    refine lv_aload_n hx hb dL_inMachine_0 rfl (lv_at hl 2 rfl) ?_
    refine lv_iconst (v := (0 : Int32)) hx hb dL_inMachine_1 (by decide) ?_
    refine lv_aload_n hx hb dL_inMachine_2 rfl (lv_at hl 0 rfl) ?_
    refine lv_iload_n hx hb dL_inMachine_3 rfl (lv_at hl 1 rfl) ?_
    obtain ⟨μ1, r1, k1, hc1, h⟩ := fw_b3_e h
    refine fw_xret (vx_runV (As := [.int x1]) (rest := [.int (0 : Int32), .ref (fw_ad E 0 27)]) ⟨hx, hb, hml, hown, hU⟩ (k_X9_inMachine l hst hE x1 hc1) (cwV 1 hU (fw_gV m_737 m_738 m_739 m_1 m_740) rfl rfl rfl (by decide +kernel) ⟨(Nat.le_of_ble_eq_true rfl), (Nat.le_of_ble_eq_true rfl)⟩) ⟨fw_blind, fw_recv hK hP (fw_V0 (f := 10) (by decide) (by decide)) rfl rfl, fun U hU9 hW9 => ⟨rfl, fw_pre hK hP hSt hS U hU9 hW9⟩⟩ rfl rfl hl.1 rfl (lv_room (Nat.le_of_ble_eq_true rfl)) dL_inMachine_4 ⟨(Nat.le_of_ble_eq_true rfl), (Nat.le_of_ble_eq_true rfl)⟩) hS (fun hk1 H locs hP hS => ?_) (fun hk1 H locs q ce hP hS hce hcv hcl => ?_)
    · rw [if_pos hk1] at h
      refine lv_i2l (v := r1.toInt64) hx hb dL_inMachine_7 rfl ?_
      refine fw_last hx hb hK hP hE hS dL_inMachine_8 (fun H locs hP hS => ?_)
      refine lv_goto (tgt := 15) hx hb dL_inMachine_9 (by decide) ?_
      refine lv_iconst (v := (0 : Int32)) hx hb dL_inMachine_15 (by decide) ?_
      refine W.widen (k := 1) (n := 6) (Nat.le_of_ble_eq_true rfl) (Nat.le_of_ble_eq_true rfl) ?_
      exact W.iret (v := (0 : Int32)) hx hb hr (fw_el h hP hS) hS.2.2 dL_inMachine_16
    · rw [if_neg hk1] at h
      by_cases e1_0 : k1 = 1
      · rw [if_pos e1_0] at h
        subst e1_0
        refine vx_catch (E := "java/lang/IndexOutOfBoundsException") hown [] ⟨0, 9, 12, 13⟩ [] htab (fun _ h9 => absurd h9 List.not_mem_nil) (by decide) (by decide) (hU (Cond.classLink RL 13 "java/lang/IndexOutOfBoundsException") m_338) (va_Nw.use rfl (hSt.1.2.1 _ (by decide +kernel))) hce hcv hcl ?_
        refine lv_astore_n (lv' := [(3, .ref q), (0, .ref (fw_ad E 0 10)), (1, .int x1), (2, .ref (fw_ad E 0 27))]) hx hb dL_inMachine_12 rfl hl (by decide) rfl (fun ls hl => ?_)
        refine lv_iconst (v := (1 : Int32)) hx hb dL_inMachine_13 (by decide) ?_
        refine W.widen (k := 1) (n := 6) (Nat.le_of_ble_eq_true rfl) (Nat.le_of_ble_eq_true rfl) ?_
        exact W.iret (v := (1 : Int32)) hx hb hr (fw_el h hP hS) hS.2.2 dL_inMachine_14
      · rw [if_neg e1_0] at h
        cases h
  subst ha
  have hl := lv_entry ([.ref (fw_ad E 0 10), .int x1, .ref (fw_ad E 0 27)]) (n := 4) (Nat.le_of_ble_eq_true rfl)
  rw [lg_entry_eq]
  generalize (lg_sl ([.ref (fw_ad E 0 10), .int x1, .ref (fw_ad E 0 27)]) ++ List.replicate (4 - (lg_sl ([.ref (fw_ad E 0 10), .int x1, .ref (fw_ad E 0 27)])).length) Slot.unset).toArray = ls at hl ⊢
  exact EN s.heap [] ls hP va_S.rf hl
set_option maxHeartbeats 4000000 in
set_option maxRecDepth 100000 in
theorem k_L_temperature (l : Launch) (hst : l.stackTraces = false) {E : fw_E} {o o' : Int64} {d d' : UInt64} (hE : fw_ok E) {μ μ' : fw_M} (x1 : Int32) {r : Int32} (h : f_L_temperature μ o d x1 = some (μ', o', d', r)) : Met l yL_temperature (Cond.codeWith yL_temperature cL_temperature 4 (some .int) [(0, 9, 12, 13)] :: fw_U) ({ frames := 8, cells := 1, slots := 6, locals := 131 } : Room) (va_Pc [.ref (fw_ad E 0 10), .int x1, .ref (fw_ad E 0 28)] (fun U => fw_Pre E o d μ U ∧ fw_S2 U)) (fw_Q E o' d' (some (.int r)) μ') 1 6 (fw_A E) := by
  refine va_MetW (cc := cL_temperature) (maxL := 4) (ret := some .int) (by decide) rfl ?_
  intro p e s m args below meth c s₁ B hml hv
  obtain ⟨ha, ⟨hK, hP, hSt⟩, hN2⟩ := hv
  have hx := B.exec
  have hb := B.bytes
  have hr := B.returns
  have hts := atoms_spec (ws := (Cond.codeWith yL_temperature cL_temperature 4 (some .int) [(0, 9, 12, 13)] :: fw_U)) B.pre
  have hU : ∀ w ∈ fw_U, w.before args s = true := fun w hw => hts w (List.mem_cons_of_mem _ hw)
  have htab : c.exceptionTable.toList = [⟨0, 9, 12, 13⟩] := vx_table (x := yL_temperature) B (hts _ List.mem_cons_self)
  have hown : s.vm.findClass RL = some m.cls := findClass_of_methodNamed B.named
  have hlocks := B.notSynchronized
  have EN : ∀ (H : Heap) (locs : List Loc) (ls : Array Slot), fw_P E o d μ H → va_S (fw_A E) s.heap H locs → lv_has ls 4 [(0, .ref (fw_ad E 0 10)), (1, .int x1), (2, .ref (fw_ad E 0 28))] → W p l e (headSpec (Cond.codeWith yL_temperature cL_temperature 4 (some .int) [(0, 9, 12, 13)] :: fw_U) ({ frames := 8, cells := 1, slots := 6, locals := 131 } : Room)).room s m args below meth c H locs 0 0 (MQ below (fw_Q E o' d' (some (.int r)) μ') args s 1 6 (fw_A E)) (F0 m 0 ls []) := by
    intro H locs ls hP hS hl
    unfold f_L_temperature at h
    refine lv_aload_n hx hb dL_temperature_0 rfl (lv_at hl 2 rfl) ?_
    refine lv_iconst (v := (0 : Int32)) hx hb dL_temperature_1 (by decide) ?_
    refine lv_aload_n hx hb dL_temperature_2 rfl (lv_at hl 0 rfl) ?_
    refine lv_iload_n hx hb dL_temperature_3 rfl (lv_at hl 1 rfl) ?_
    obtain ⟨μ1, r1, k1, hc1, h⟩ := fw_b3_e h
    refine fw_xret (vx_runV (As := [.int x1]) (rest := [.int (0 : Int32), .ref (fw_ad E 0 28)]) ⟨hx, hb, hml, hown, hU⟩ (k_X9_temperature l hst hE x1 hc1) (cwV 1 hU (fw_gV m_749 m_750 m_751 m_1 m_752) rfl rfl rfl (by decide +kernel) ⟨(Nat.le_of_ble_eq_true rfl), (Nat.le_of_ble_eq_true rfl)⟩) ⟨fw_blind, fw_recv hK hP (fw_V0 (f := 10) (by decide) (by decide)) rfl rfl, fun U hU9 hW9 => ⟨rfl, fw_pre hK hP hSt hS U hU9 hW9⟩⟩ rfl rfl hl.1 rfl (lv_room (Nat.le_of_ble_eq_true rfl)) dL_temperature_4 ⟨(Nat.le_of_ble_eq_true rfl), (Nat.le_of_ble_eq_true rfl)⟩) hS (fun hk1 H locs hP hS => ?_) (fun hk1 H locs q ce hP hS hce hcv hcl => ?_)
    · rw [if_pos hk1] at h
      obtain ⟨g2, h⟩ := fw_g_e h
      refine lv_f2d hx hb dL_temperature_7 (fw_f64_e g2) ?_
      refine fw_dast hx hb hK hP hE hS dL_temperature_8 (fun H locs hP hS => ?_)
      refine lv_goto (tgt := 15) hx hb dL_temperature_9 (by decide) ?_
      refine lv_iconst (v := (0 : Int32)) hx hb dL_temperature_15 (by decide) ?_
      refine W.widen (k := 1) (n := 6) (Nat.le_of_ble_eq_true rfl) (Nat.le_of_ble_eq_true rfl) ?_
      exact W.iret (v := (0 : Int32)) hx hb hr (fw_el h hP hS) hS.2.2 dL_temperature_16
    · rw [if_neg hk1] at h
      by_cases e1_0 : k1 = 1
      · rw [if_pos e1_0] at h
        subst e1_0
        refine vx_catch (E := "java/lang/IndexOutOfBoundsException") hown [] ⟨0, 9, 12, 13⟩ [] htab (fun _ h9 => absurd h9 List.not_mem_nil) (by decide) (by decide) (hU (Cond.classLink RL 13 "java/lang/IndexOutOfBoundsException") m_338) (va_Nw.use rfl (hSt.1.2.1 _ (by decide +kernel))) hce hcv hcl ?_
        refine lv_astore_n (lv' := [(3, .ref q), (0, .ref (fw_ad E 0 10)), (1, .int x1), (2, .ref (fw_ad E 0 28))]) hx hb dL_temperature_12 rfl hl (by decide) rfl (fun ls hl => ?_)
        refine lv_iconst (v := (1 : Int32)) hx hb dL_temperature_13 (by decide) ?_
        refine W.widen (k := 1) (n := 6) (Nat.le_of_ble_eq_true rfl) (Nat.le_of_ble_eq_true rfl) ?_
        exact W.iret (v := (1 : Int32)) hx hb hr (fw_el h hP hS) hS.2.2 dL_temperature_14
      · rw [if_neg e1_0] at h
        cases h
  subst ha
  have hl := lv_entry ([.ref (fw_ad E 0 10), .int x1, .ref (fw_ad E 0 28)]) (n := 4) (Nat.le_of_ble_eq_true rfl)
  rw [lg_entry_eq]
  generalize (lg_sl ([.ref (fw_ad E 0 10), .int x1, .ref (fw_ad E 0 28)]) ++ List.replicate (4 - (lg_sl ([.ref (fw_ad E 0 10), .int x1, .ref (fw_ad E 0 28)])).length) Slot.unset).toArray = ls at hl ⊢
  exact EN s.heap [] ls hP va_S.rf hl
set_option maxHeartbeats 4000000 in
set_option maxRecDepth 100000 in
theorem k_L_temperatureBits (l : Launch) (hst : l.stackTraces = false) {E : fw_E} {o o' : Int64} {d d' : UInt64} (hE : fw_ok E) {μ μ' : fw_M} (x1 : Int32) {r : Int32} (h : f_L_temperatureBits μ o d x1 = some (μ', o', d', r)) : Met l yL_temperatureBits (Cond.codeWith yL_temperatureBits cL_temperatureBits 4 (some .int) [(0, 9, 12, 13)] :: fw_U) ({ frames := 8, cells := 1, slots := 6, locals := 131 } : Room) (va_Pc [.ref (fw_ad E 0 10), .int x1, .ref (fw_ad E 0 27)] (fun U => fw_Pre E o d μ U ∧ fw_S2 U)) (fw_Q E o' d' (some (.int r)) μ') 1 6 (fw_A E) := by
  refine va_MetW (cc := cL_temperatureBits) (maxL := 4) (ret := some .int) (by decide) rfl ?_
  intro p e s m args below meth c s₁ B hml hv
  obtain ⟨ha, ⟨hK, hP, hSt⟩, hN2⟩ := hv
  have hx := B.exec
  have hb := B.bytes
  have hr := B.returns
  have hts := atoms_spec (ws := (Cond.codeWith yL_temperatureBits cL_temperatureBits 4 (some .int) [(0, 9, 12, 13)] :: fw_U)) B.pre
  have hU : ∀ w ∈ fw_U, w.before args s = true := fun w hw => hts w (List.mem_cons_of_mem _ hw)
  have htab : c.exceptionTable.toList = [⟨0, 9, 12, 13⟩] := vx_table (x := yL_temperatureBits) B (hts _ List.mem_cons_self)
  have hown : s.vm.findClass RL = some m.cls := findClass_of_methodNamed B.named
  have hlocks := B.notSynchronized
  have EN : ∀ (H : Heap) (locs : List Loc) (ls : Array Slot), fw_P E o d μ H → va_S (fw_A E) s.heap H locs → lv_has ls 4 [(0, .ref (fw_ad E 0 10)), (1, .int x1), (2, .ref (fw_ad E 0 27))] → W p l e (headSpec (Cond.codeWith yL_temperatureBits cL_temperatureBits 4 (some .int) [(0, 9, 12, 13)] :: fw_U) ({ frames := 8, cells := 1, slots := 6, locals := 131 } : Room)).room s m args below meth c H locs 0 0 (MQ below (fw_Q E o' d' (some (.int r)) μ') args s 1 6 (fw_A E)) (F0 m 0 ls []) := by
    intro H locs ls hP hS hl
    unfold f_L_temperatureBits at h
    refine lv_aload_n hx hb dL_temperatureBits_0 rfl (lv_at hl 2 rfl) ?_
    refine lv_iconst (v := (0 : Int32)) hx hb dL_temperatureBits_1 (by decide) ?_
    refine lv_aload_n hx hb dL_temperatureBits_2 rfl (lv_at hl 0 rfl) ?_
    refine lv_iload_n hx hb dL_temperatureBits_3 rfl (lv_at hl 1 rfl) ?_
    obtain ⟨μ1, r1, k1, hc1, h⟩ := fw_b3_e h
    refine fw_xret (vx_runV (As := [.int x1]) (rest := [.int (0 : Int32), .ref (fw_ad E 0 27)]) ⟨hx, hb, hml, hown, hU⟩ (k_X9_temperatureBits l hst hE x1 hc1) (cwV 1 hU (fw_gV m_756 m_757 m_758 m_1 m_759) rfl rfl rfl (by decide +kernel) ⟨(Nat.le_of_ble_eq_true rfl), (Nat.le_of_ble_eq_true rfl)⟩) ⟨fw_blind, fw_recv hK hP (fw_V0 (f := 10) (by decide) (by decide)) rfl rfl, fun U hU9 hW9 => ⟨rfl, fw_pre hK hP hSt hS U hU9 hW9⟩⟩ rfl rfl hl.1 rfl (lv_room (Nat.le_of_ble_eq_true rfl)) dL_temperatureBits_4 ⟨(Nat.le_of_ble_eq_true rfl), (Nat.le_of_ble_eq_true rfl)⟩) hS (fun hk1 H locs hP hS => ?_) (fun hk1 H locs q ce hP hS hce hcv hcl => ?_)
    · rw [if_pos hk1] at h
      refine lv_i2l (v := r1.toInt64) hx hb dL_temperatureBits_7 rfl ?_
      refine fw_last hx hb hK hP hE hS dL_temperatureBits_8 (fun H locs hP hS => ?_)
      refine lv_goto (tgt := 15) hx hb dL_temperatureBits_9 (by decide) ?_
      refine lv_iconst (v := (0 : Int32)) hx hb dL_temperatureBits_15 (by decide) ?_
      refine W.widen (k := 1) (n := 6) (Nat.le_of_ble_eq_true rfl) (Nat.le_of_ble_eq_true rfl) ?_
      exact W.iret (v := (0 : Int32)) hx hb hr (fw_el h hP hS) hS.2.2 dL_temperatureBits_16
    · rw [if_neg hk1] at h
      by_cases e1_0 : k1 = 1
      · rw [if_pos e1_0] at h
        subst e1_0
        refine vx_catch (E := "java/lang/IndexOutOfBoundsException") hown [] ⟨0, 9, 12, 13⟩ [] htab (fun _ h9 => absurd h9 List.not_mem_nil) (by decide) (by decide) (hU (Cond.classLink RL 13 "java/lang/IndexOutOfBoundsException") m_338) (va_Nw.use rfl (hSt.1.2.1 _ (by decide +kernel))) hce hcv hcl ?_
        refine lv_astore_n (lv' := [(3, .ref q), (0, .ref (fw_ad E 0 10)), (1, .int x1), (2, .ref (fw_ad E 0 27))]) hx hb dL_temperatureBits_12 rfl hl (by decide) rfl (fun ls hl => ?_)
        refine lv_iconst (v := (1 : Int32)) hx hb dL_temperatureBits_13 (by decide) ?_
        refine W.widen (k := 1) (n := 6) (Nat.le_of_ble_eq_true rfl) (Nat.le_of_ble_eq_true rfl) ?_
        exact W.iret (v := (1 : Int32)) hx hb hr (fw_el h hP hS) hS.2.2 dL_temperatureBits_14
      · rw [if_neg e1_0] at h
        cases h
  subst ha
  have hl := lv_entry ([.ref (fw_ad E 0 10), .int x1, .ref (fw_ad E 0 27)]) (n := 4) (Nat.le_of_ble_eq_true rfl)
  rw [lg_entry_eq]
  generalize (lg_sl ([.ref (fw_ad E 0 10), .int x1, .ref (fw_ad E 0 27)]) ++ List.replicate (4 - (lg_sl ([.ref (fw_ad E 0 10), .int x1, .ref (fw_ad E 0 27)])).length) Slot.unset).toArray = ls at hl ⊢
  exact EN s.heap [] ls hP va_S.rf hl
set_option maxHeartbeats 4000000 in
set_option maxRecDepth 100000 in
theorem k_L_washableStains (l : Launch) (hst : l.stackTraces = false) {E : fw_E} {o o' : Int64} {d d' : UInt64} (hE : fw_ok E) {μ μ' : fw_M} (x1 : Int32) {r : Int32} (h : f_L_washableStains μ o d x1 = some (μ', o', d', r)) : Met l yL_washableStains (Cond.codeWith yL_washableStains cL_washableStains 4 (some .int) [(0, 9, 12, 13)] :: fw_U) ({ frames := 8, cells := 1, slots := 6, locals := 131 } : Room) (va_Pc [.ref (fw_ad E 0 10), .int x1, .ref (fw_ad E 0 27)] (fun U => fw_Pre E o d μ U ∧ fw_S2 U)) (fw_Q E o' d' (some (.int r)) μ') 1 6 (fw_A E) := by
  refine va_MetW (cc := cL_washableStains) (maxL := 4) (ret := some .int) (by decide) rfl ?_
  intro p e s m args below meth c s₁ B hml hv
  obtain ⟨ha, ⟨hK, hP, hSt⟩, hN2⟩ := hv
  have hx := B.exec
  have hb := B.bytes
  have hr := B.returns
  have hts := atoms_spec (ws := (Cond.codeWith yL_washableStains cL_washableStains 4 (some .int) [(0, 9, 12, 13)] :: fw_U)) B.pre
  have hU : ∀ w ∈ fw_U, w.before args s = true := fun w hw => hts w (List.mem_cons_of_mem _ hw)
  have htab : c.exceptionTable.toList = [⟨0, 9, 12, 13⟩] := vx_table (x := yL_washableStains) B (hts _ List.mem_cons_self)
  have hown : s.vm.findClass RL = some m.cls := findClass_of_methodNamed B.named
  have hlocks := B.notSynchronized
  have EN : ∀ (H : Heap) (locs : List Loc) (ls : Array Slot), fw_P E o d μ H → va_S (fw_A E) s.heap H locs → lv_has ls 4 [(0, .ref (fw_ad E 0 10)), (1, .int x1), (2, .ref (fw_ad E 0 27))] → W p l e (headSpec (Cond.codeWith yL_washableStains cL_washableStains 4 (some .int) [(0, 9, 12, 13)] :: fw_U) ({ frames := 8, cells := 1, slots := 6, locals := 131 } : Room)).room s m args below meth c H locs 0 0 (MQ below (fw_Q E o' d' (some (.int r)) μ') args s 1 6 (fw_A E)) (F0 m 0 ls []) := by
    intro H locs ls hP hS hl
    unfold f_L_washableStains at h
    refine lv_aload_n hx hb dL_washableStains_0 rfl (lv_at hl 2 rfl) ?_
    refine lv_iconst (v := (0 : Int32)) hx hb dL_washableStains_1 (by decide) ?_
    refine lv_aload_n hx hb dL_washableStains_2 rfl (lv_at hl 0 rfl) ?_
    refine lv_iload_n hx hb dL_washableStains_3 rfl (lv_at hl 1 rfl) ?_
    obtain ⟨μ1, r1, k1, hc1, h⟩ := fw_b3_e h
    refine fw_xret (vx_runV (As := [.int x1]) (rest := [.int (0 : Int32), .ref (fw_ad E 0 27)]) ⟨hx, hb, hml, hown, hU⟩ (k_X9_washableStains l hst hE x1 hc1) (cwV 1 hU (fw_gV m_767 m_768 m_769 m_1 m_770) rfl rfl rfl (by decide +kernel) ⟨(Nat.le_of_ble_eq_true rfl), (Nat.le_of_ble_eq_true rfl)⟩) ⟨fw_blind, fw_recv hK hP (fw_V0 (f := 10) (by decide) (by decide)) rfl rfl, fun U hU9 hW9 => ⟨rfl, fw_pre hK hP hSt hS U hU9 hW9⟩⟩ rfl rfl hl.1 rfl (lv_room (Nat.le_of_ble_eq_true rfl)) dL_washableStains_4 ⟨(Nat.le_of_ble_eq_true rfl), (Nat.le_of_ble_eq_true rfl)⟩) hS (fun hk1 H locs hP hS => ?_) (fun hk1 H locs q ce hP hS hce hcv hcl => ?_)
    · rw [if_pos hk1] at h
      refine lv_i2l (v := r1.toInt64) hx hb dL_washableStains_7 rfl ?_
      refine fw_last hx hb hK hP hE hS dL_washableStains_8 (fun H locs hP hS => ?_)
      refine lv_goto (tgt := 15) hx hb dL_washableStains_9 (by decide) ?_
      refine lv_iconst (v := (0 : Int32)) hx hb dL_washableStains_15 (by decide) ?_
      refine W.widen (k := 1) (n := 6) (Nat.le_of_ble_eq_true rfl) (Nat.le_of_ble_eq_true rfl) ?_
      exact W.iret (v := (0 : Int32)) hx hb hr (fw_el h hP hS) hS.2.2 dL_washableStains_16
    · rw [if_neg hk1] at h
      by_cases e1_0 : k1 = 1
      · rw [if_pos e1_0] at h
        subst e1_0
        refine vx_catch (E := "java/lang/IndexOutOfBoundsException") hown [] ⟨0, 9, 12, 13⟩ [] htab (fun _ h9 => absurd h9 List.not_mem_nil) (by decide) (by decide) (hU (Cond.classLink RL 13 "java/lang/IndexOutOfBoundsException") m_338) (va_Nw.use rfl (hSt.1.2.1 _ (by decide +kernel))) hce hcv hcl ?_
        refine lv_astore_n (lv' := [(3, .ref q), (0, .ref (fw_ad E 0 10)), (1, .int x1), (2, .ref (fw_ad E 0 27))]) hx hb dL_washableStains_12 rfl hl (by decide) rfl (fun ls hl => ?_)
        refine lv_iconst (v := (1 : Int32)) hx hb dL_washableStains_13 (by decide) ?_
        refine W.widen (k := 1) (n := 6) (Nat.le_of_ble_eq_true rfl) (Nat.le_of_ble_eq_true rfl) ?_
        exact W.iret (v := (1 : Int32)) hx hb hr (fw_el h hP hS) hS.2.2 dL_washableStains_14
      · rw [if_neg e1_0] at h
        cases h
  subst ha
  have hl := lv_entry ([.ref (fw_ad E 0 10), .int x1, .ref (fw_ad E 0 27)]) (n := 4) (Nat.le_of_ble_eq_true rfl)
  rw [lg_entry_eq]
  generalize (lg_sl ([.ref (fw_ad E 0 10), .int x1, .ref (fw_ad E 0 27)]) ++ List.replicate (4 - (lg_sl ([.ref (fw_ad E 0 10), .int x1, .ref (fw_ad E 0 27)])).length) Slot.unset).toArray = ls at hl ⊢
  exact EN s.heap [] ls hP va_S.rf hl
set_option maxHeartbeats 4000000 in
set_option maxRecDepth 100000 in
theorem k_L_commonStains (l : Launch) (hst : l.stackTraces = false) {E : fw_E} {o o' : Int64} {d d' : UInt64} (hE : fw_ok E) {μ μ' : fw_M} (x1 : Int32) {r : Int32} (h : f_L_commonStains μ o d x1 = some (μ', o', d', r)) : Met l yL_commonStains (Cond.codeWith yL_commonStains cL_commonStains 4 (some .int) [(0, 9, 12, 13)] :: fw_U) ({ frames := 8, cells := 1, slots := 6, locals := 131 } : Room) (va_Pc [.ref (fw_ad E 0 10), .int x1, .ref (fw_ad E 0 27)] (fun U => fw_Pre E o d μ U ∧ fw_S2 U)) (fw_Q E o' d' (some (.int r)) μ') 1 6 (fw_A E) := by
  refine va_MetW (cc := cL_commonStains) (maxL := 4) (ret := some .int) (by decide) rfl ?_
  intro p e s m args below meth c s₁ B hml hv
  obtain ⟨ha, ⟨hK, hP, hSt⟩, hN2⟩ := hv
  have hx := B.exec
  have hb := B.bytes
  have hr := B.returns
  have hts := atoms_spec (ws := (Cond.codeWith yL_commonStains cL_commonStains 4 (some .int) [(0, 9, 12, 13)] :: fw_U)) B.pre
  have hU : ∀ w ∈ fw_U, w.before args s = true := fun w hw => hts w (List.mem_cons_of_mem _ hw)
  have htab : c.exceptionTable.toList = [⟨0, 9, 12, 13⟩] := vx_table (x := yL_commonStains) B (hts _ List.mem_cons_self)
  have hown : s.vm.findClass RL = some m.cls := findClass_of_methodNamed B.named
  have hlocks := B.notSynchronized
  have EN : ∀ (H : Heap) (locs : List Loc) (ls : Array Slot), fw_P E o d μ H → va_S (fw_A E) s.heap H locs → lv_has ls 4 [(0, .ref (fw_ad E 0 10)), (1, .int x1), (2, .ref (fw_ad E 0 27))] → W p l e (headSpec (Cond.codeWith yL_commonStains cL_commonStains 4 (some .int) [(0, 9, 12, 13)] :: fw_U) ({ frames := 8, cells := 1, slots := 6, locals := 131 } : Room)).room s m args below meth c H locs 0 0 (MQ below (fw_Q E o' d' (some (.int r)) μ') args s 1 6 (fw_A E)) (F0 m 0 ls []) := by
    intro H locs ls hP hS hl
    unfold f_L_commonStains at h
    refine lv_aload_n hx hb dL_commonStains_0 rfl (lv_at hl 2 rfl) ?_
    refine lv_iconst (v := (0 : Int32)) hx hb dL_commonStains_1 (by decide) ?_
    refine lv_aload_n hx hb dL_commonStains_2 rfl (lv_at hl 0 rfl) ?_
    refine lv_iload_n hx hb dL_commonStains_3 rfl (lv_at hl 1 rfl) ?_
    obtain ⟨μ1, r1, k1, hc1, h⟩ := fw_b3_e h
    refine fw_xret (vx_runV (As := [.int x1]) (rest := [.int (0 : Int32), .ref (fw_ad E 0 27)]) ⟨hx, hb, hml, hown, hU⟩ (k_X9_commonStains l hst hE x1 hc1) (cwV 1 hU (fw_gV m_775 m_776 m_777 m_1 m_778) rfl rfl rfl (by decide +kernel) ⟨(Nat.le_of_ble_eq_true rfl), (Nat.le_of_ble_eq_true rfl)⟩) ⟨fw_blind, fw_recv hK hP (fw_V0 (f := 10) (by decide) (by decide)) rfl rfl, fun U hU9 hW9 => ⟨rfl, fw_pre hK hP hSt hS U hU9 hW9⟩⟩ rfl rfl hl.1 rfl (lv_room (Nat.le_of_ble_eq_true rfl)) dL_commonStains_4 ⟨(Nat.le_of_ble_eq_true rfl), (Nat.le_of_ble_eq_true rfl)⟩) hS (fun hk1 H locs hP hS => ?_) (fun hk1 H locs q ce hP hS hce hcv hcl => ?_)
    · rw [if_pos hk1] at h
      refine lv_i2l (v := r1.toInt64) hx hb dL_commonStains_7 rfl ?_
      refine fw_last hx hb hK hP hE hS dL_commonStains_8 (fun H locs hP hS => ?_)
      refine lv_goto (tgt := 15) hx hb dL_commonStains_9 (by decide) ?_
      refine lv_iconst (v := (0 : Int32)) hx hb dL_commonStains_15 (by decide) ?_
      refine W.widen (k := 1) (n := 6) (Nat.le_of_ble_eq_true rfl) (Nat.le_of_ble_eq_true rfl) ?_
      exact W.iret (v := (0 : Int32)) hx hb hr (fw_el h hP hS) hS.2.2 dL_commonStains_16
    · rw [if_neg hk1] at h
      by_cases e1_0 : k1 = 1
      · rw [if_pos e1_0] at h
        subst e1_0
        refine vx_catch (E := "java/lang/IndexOutOfBoundsException") hown [] ⟨0, 9, 12, 13⟩ [] htab (fun _ h9 => absurd h9 List.not_mem_nil) (by decide) (by decide) (hU (Cond.classLink RL 13 "java/lang/IndexOutOfBoundsException") m_338) (va_Nw.use rfl (hSt.1.2.1 _ (by decide +kernel))) hce hcv hcl ?_
        refine lv_astore_n (lv' := [(3, .ref q), (0, .ref (fw_ad E 0 10)), (1, .int x1), (2, .ref (fw_ad E 0 27))]) hx hb dL_commonStains_12 rfl hl (by decide) rfl (fun ls hl => ?_)
        refine lv_iconst (v := (1 : Int32)) hx hb dL_commonStains_13 (by decide) ?_
        refine W.widen (k := 1) (n := 6) (Nat.le_of_ble_eq_true rfl) (Nat.le_of_ble_eq_true rfl) ?_
        exact W.iret (v := (1 : Int32)) hx hb hr (fw_el h hP hS) hS.2.2 dL_commonStains_14
      · rw [if_neg e1_0] at h
        cases h
  subst ha
  have hl := lv_entry ([.ref (fw_ad E 0 10), .int x1, .ref (fw_ad E 0 27)]) (n := 4) (Nat.le_of_ble_eq_true rfl)
  rw [lg_entry_eq]
  generalize (lg_sl ([.ref (fw_ad E 0 10), .int x1, .ref (fw_ad E 0 27)]) ++ List.replicate (4 - (lg_sl ([.ref (fw_ad E 0 10), .int x1, .ref (fw_ad E 0 27)])).length) Slot.unset).toArray = ls at hl ⊢
  exact EN s.heap [] ls hP va_S.rf hl
set_option maxHeartbeats 4000000 in
set_option maxRecDepth 100000 in
theorem k_L_coloursIn (l : Launch) (hst : l.stackTraces = false) {E : fw_E} {o o' : Int64} {d d' : UInt64} (hE : fw_ok E) {μ μ' : fw_M} (x1 : Int32) {r : Int32} (h : f_L_coloursIn μ o d x1 = some (μ', o', d', r)) : Met l yL_coloursIn (Cond.codeWith yL_coloursIn cL_coloursIn 4 (some .int) [(0, 9, 12, 13)] :: fw_U) ({ frames := 8, cells := 1, slots := 6, locals := 131 } : Room) (va_Pc [.ref (fw_ad E 0 10), .int x1, .ref (fw_ad E 0 27)] (fun U => fw_Pre E o d μ U ∧ fw_S2 U)) (fw_Q E o' d' (some (.int r)) μ') 1 6 (fw_A E) := by
  refine va_MetW (cc := cL_coloursIn) (maxL := 4) (ret := some .int) (by decide) rfl ?_
  intro p e s m args below meth c s₁ B hml hv
  obtain ⟨ha, ⟨hK, hP, hSt⟩, hN2⟩ := hv
  have hx := B.exec
  have hb := B.bytes
  have hr := B.returns
  have hts := atoms_spec (ws := (Cond.codeWith yL_coloursIn cL_coloursIn 4 (some .int) [(0, 9, 12, 13)] :: fw_U)) B.pre
  have hU : ∀ w ∈ fw_U, w.before args s = true := fun w hw => hts w (List.mem_cons_of_mem _ hw)
  have htab : c.exceptionTable.toList = [⟨0, 9, 12, 13⟩] := vx_table (x := yL_coloursIn) B (hts _ List.mem_cons_self)
  have hown : s.vm.findClass RL = some m.cls := findClass_of_methodNamed B.named
  have hlocks := B.notSynchronized
  have EN : ∀ (H : Heap) (locs : List Loc) (ls : Array Slot), fw_P E o d μ H → va_S (fw_A E) s.heap H locs → lv_has ls 4 [(0, .ref (fw_ad E 0 10)), (1, .int x1), (2, .ref (fw_ad E 0 27))] → W p l e (headSpec (Cond.codeWith yL_coloursIn cL_coloursIn 4 (some .int) [(0, 9, 12, 13)] :: fw_U) ({ frames := 8, cells := 1, slots := 6, locals := 131 } : Room)).room s m args below meth c H locs 0 0 (MQ below (fw_Q E o' d' (some (.int r)) μ') args s 1 6 (fw_A E)) (F0 m 0 ls []) := by
    intro H locs ls hP hS hl
    unfold f_L_coloursIn at h
    refine lv_aload_n hx hb dL_coloursIn_0 rfl (lv_at hl 2 rfl) ?_
    refine lv_iconst (v := (0 : Int32)) hx hb dL_coloursIn_1 (by decide) ?_
    refine lv_aload_n hx hb dL_coloursIn_2 rfl (lv_at hl 0 rfl) ?_
    refine lv_iload_n hx hb dL_coloursIn_3 rfl (lv_at hl 1 rfl) ?_
    obtain ⟨μ1, r1, k1, hc1, h⟩ := fw_b3_e h
    refine fw_xret (vx_runV (As := [.int x1]) (rest := [.int (0 : Int32), .ref (fw_ad E 0 27)]) ⟨hx, hb, hml, hown, hU⟩ (k_X9_coloursIn l hst hE x1 hc1) (cwV 1 hU (fw_gV m_786 m_787 m_788 m_1 m_789) rfl rfl rfl (by decide +kernel) ⟨(Nat.le_of_ble_eq_true rfl), (Nat.le_of_ble_eq_true rfl)⟩) ⟨fw_blind, fw_recv hK hP (fw_V0 (f := 10) (by decide) (by decide)) rfl rfl, fun U hU9 hW9 => ⟨rfl, fw_pre hK hP hSt hS U hU9 hW9⟩⟩ rfl rfl hl.1 rfl (lv_room (Nat.le_of_ble_eq_true rfl)) dL_coloursIn_4 ⟨(Nat.le_of_ble_eq_true rfl), (Nat.le_of_ble_eq_true rfl)⟩) hS (fun hk1 H locs hP hS => ?_) (fun hk1 H locs q ce hP hS hce hcv hcl => ?_)
    · rw [if_pos hk1] at h
      refine lv_i2l (v := r1.toInt64) hx hb dL_coloursIn_7 rfl ?_
      refine fw_last hx hb hK hP hE hS dL_coloursIn_8 (fun H locs hP hS => ?_)
      refine lv_goto (tgt := 15) hx hb dL_coloursIn_9 (by decide) ?_
      refine lv_iconst (v := (0 : Int32)) hx hb dL_coloursIn_15 (by decide) ?_
      refine W.widen (k := 1) (n := 6) (Nat.le_of_ble_eq_true rfl) (Nat.le_of_ble_eq_true rfl) ?_
      exact W.iret (v := (0 : Int32)) hx hb hr (fw_el h hP hS) hS.2.2 dL_coloursIn_16
    · rw [if_neg hk1] at h
      by_cases e1_0 : k1 = 1
      · rw [if_pos e1_0] at h
        subst e1_0
        refine vx_catch (E := "java/lang/IndexOutOfBoundsException") hown [] ⟨0, 9, 12, 13⟩ [] htab (fun _ h9 => absurd h9 List.not_mem_nil) (by decide) (by decide) (hU (Cond.classLink RL 13 "java/lang/IndexOutOfBoundsException") m_338) (va_Nw.use rfl (hSt.1.2.1 _ (by decide +kernel))) hce hcv hcl ?_
        refine lv_astore_n (lv' := [(3, .ref q), (0, .ref (fw_ad E 0 10)), (1, .int x1), (2, .ref (fw_ad E 0 27))]) hx hb dL_coloursIn_12 rfl hl (by decide) rfl (fun ls hl => ?_)
        refine lv_iconst (v := (1 : Int32)) hx hb dL_coloursIn_13 (by decide) ?_
        refine W.widen (k := 1) (n := 6) (Nat.le_of_ble_eq_true rfl) (Nat.le_of_ble_eq_true rfl) ?_
        exact W.iret (v := (1 : Int32)) hx hb hr (fw_el h hP hS) hS.2.2 dL_coloursIn_14
      · rw [if_neg e1_0] at h
        cases h
  subst ha
  have hl := lv_entry ([.ref (fw_ad E 0 10), .int x1, .ref (fw_ad E 0 27)]) (n := 4) (Nat.le_of_ble_eq_true rfl)
  rw [lg_entry_eq]
  generalize (lg_sl ([.ref (fw_ad E 0 10), .int x1, .ref (fw_ad E 0 27)]) ++ List.replicate (4 - (lg_sl ([.ref (fw_ad E 0 10), .int x1, .ref (fw_ad E 0 27)])).length) Slot.unset).toArray = ls at hl ⊢
  exact EN s.heap [] ls hP va_S.rf hl
set_option maxHeartbeats 4000000 in
set_option maxRecDepth 100000 in
theorem k_L_damage (l : Launch) (hst : l.stackTraces = false) {E : fw_E} {o o' : Int64} {d d' : UInt64} (hE : fw_ok E) {μ μ' : fw_M} (x1 : Int32) {r : Int32} (h : f_L_damage μ o d x1 = some (μ', o', d', r)) : Met l yL_damage (Cond.codeWith yL_damage cL_damage 4 (some .int) [(0, 9, 12, 13)] :: fw_U) ({ frames := 8, cells := 1, slots := 6, locals := 135 } : Room) (va_Pc [.ref (fw_ad E 0 10), .int x1, .ref (fw_ad E 0 27)] (fun U => fw_Pre E o d μ U ∧ fw_S2 U)) (fw_Q E o' d' (some (.int r)) μ') 1 6 (fw_A E) := by
  refine va_MetW (cc := cL_damage) (maxL := 4) (ret := some .int) (by decide) rfl ?_
  intro p e s m args below meth c s₁ B hml hv
  obtain ⟨ha, ⟨hK, hP, hSt⟩, hN2⟩ := hv
  have hx := B.exec
  have hb := B.bytes
  have hr := B.returns
  have hts := atoms_spec (ws := (Cond.codeWith yL_damage cL_damage 4 (some .int) [(0, 9, 12, 13)] :: fw_U)) B.pre
  have hU : ∀ w ∈ fw_U, w.before args s = true := fun w hw => hts w (List.mem_cons_of_mem _ hw)
  have htab : c.exceptionTable.toList = [⟨0, 9, 12, 13⟩] := vx_table (x := yL_damage) B (hts _ List.mem_cons_self)
  have hown : s.vm.findClass RL = some m.cls := findClass_of_methodNamed B.named
  have hlocks := B.notSynchronized
  have EN : ∀ (H : Heap) (locs : List Loc) (ls : Array Slot), fw_P E o d μ H → va_S (fw_A E) s.heap H locs → lv_has ls 4 [(0, .ref (fw_ad E 0 10)), (1, .int x1), (2, .ref (fw_ad E 0 27))] → W p l e (headSpec (Cond.codeWith yL_damage cL_damage 4 (some .int) [(0, 9, 12, 13)] :: fw_U) ({ frames := 8, cells := 1, slots := 6, locals := 135 } : Room)).room s m args below meth c H locs 0 0 (MQ below (fw_Q E o' d' (some (.int r)) μ') args s 1 6 (fw_A E)) (F0 m 0 ls []) := by
    intro H locs ls hP hS hl
    unfold f_L_damage at h
    refine lv_aload_n hx hb dL_damage_0 rfl (lv_at hl 2 rfl) ?_
    refine lv_iconst (v := (0 : Int32)) hx hb dL_damage_1 (by decide) ?_
    refine lv_aload_n hx hb dL_damage_2 rfl (lv_at hl 0 rfl) ?_
    refine lv_iload_n hx hb dL_damage_3 rfl (lv_at hl 1 rfl) ?_
    obtain ⟨μ1, r1, k1, hc1, h⟩ := fw_b3_e h
    refine fw_xret (vx_runV (As := [.int x1]) (rest := [.int (0 : Int32), .ref (fw_ad E 0 27)]) ⟨hx, hb, hml, hown, hU⟩ (k_X9_damage l hst hE x1 hc1) (cwV 1 hU (fw_gV m_797 m_798 m_799 m_1 m_800) rfl rfl rfl (by decide +kernel) ⟨(Nat.le_of_ble_eq_true rfl), (Nat.le_of_ble_eq_true rfl)⟩) ⟨fw_blind, fw_recv hK hP (fw_V0 (f := 10) (by decide) (by decide)) rfl rfl, fun U hU9 hW9 => ⟨rfl, fw_pre hK hP hSt hS U hU9 hW9⟩⟩ rfl rfl hl.1 rfl (lv_room (Nat.le_of_ble_eq_true rfl)) dL_damage_4 ⟨(Nat.le_of_ble_eq_true rfl), (Nat.le_of_ble_eq_true rfl)⟩) hS (fun hk1 H locs hP hS => ?_) (fun hk1 H locs q ce hP hS hce hcv hcl => ?_)
    · rw [if_pos hk1] at h
      refine lv_i2l (v := r1.toInt64) hx hb dL_damage_7 rfl ?_
      refine fw_last hx hb hK hP hE hS dL_damage_8 (fun H locs hP hS => ?_)
      refine lv_goto (tgt := 15) hx hb dL_damage_9 (by decide) ?_
      refine lv_iconst (v := (0 : Int32)) hx hb dL_damage_15 (by decide) ?_
      refine W.widen (k := 1) (n := 6) (Nat.le_of_ble_eq_true rfl) (Nat.le_of_ble_eq_true rfl) ?_
      exact W.iret (v := (0 : Int32)) hx hb hr (fw_el h hP hS) hS.2.2 dL_damage_16
    · rw [if_neg hk1] at h
      by_cases e1_0 : k1 = 1
      · rw [if_pos e1_0] at h
        subst e1_0
        refine vx_catch (E := "java/lang/IndexOutOfBoundsException") hown [] ⟨0, 9, 12, 13⟩ [] htab (fun _ h9 => absurd h9 List.not_mem_nil) (by decide) (by decide) (hU (Cond.classLink RL 13 "java/lang/IndexOutOfBoundsException") m_338) (va_Nw.use rfl (hSt.1.2.1 _ (by decide +kernel))) hce hcv hcl ?_
        refine lv_astore_n (lv' := [(3, .ref q), (0, .ref (fw_ad E 0 10)), (1, .int x1), (2, .ref (fw_ad E 0 27))]) hx hb dL_damage_12 rfl hl (by decide) rfl (fun ls hl => ?_)
        refine lv_iconst (v := (1 : Int32)) hx hb dL_damage_13 (by decide) ?_
        refine W.widen (k := 1) (n := 6) (Nat.le_of_ble_eq_true rfl) (Nat.le_of_ble_eq_true rfl) ?_
        exact W.iret (v := (1 : Int32)) hx hb hr (fw_el h hP hS) hS.2.2 dL_damage_14
      · rw [if_neg e1_0] at h
        cases h
  subst ha
  have hl := lv_entry ([.ref (fw_ad E 0 10), .int x1, .ref (fw_ad E 0 27)]) (n := 4) (Nat.le_of_ble_eq_true rfl)
  rw [lg_entry_eq]
  generalize (lg_sl ([.ref (fw_ad E 0 10), .int x1, .ref (fw_ad E 0 27)]) ++ List.replicate (4 - (lg_sl ([.ref (fw_ad E 0 10), .int x1, .ref (fw_ad E 0 27)])).length) Slot.unset).toArray = ls at hl ⊢
  exact EN s.heap [] ls hP va_S.rf hl
set_option maxHeartbeats 4000000 in
set_option maxRecDepth 100000 in
theorem k_L_damageByMasks (l : Launch) (hst : l.stackTraces = false) {E : fw_E} {o o' : Int64} {d d' : UInt64} (hE : fw_ok E) {μ μ' : fw_M} (x1 : Int32) {r : Int32} (h : f_L_damageByMasks μ o d x1 = some (μ', o', d', r)) : Met l yL_damageByMasks (Cond.codeWith yL_damageByMasks cL_damageByMasks 4 (some .int) [(0, 9, 12, 13)] :: fw_U) ({ frames := 8, cells := 1, slots := 6, locals := 131 } : Room) (va_Pc [.ref (fw_ad E 0 10), .int x1, .ref (fw_ad E 0 27)] (fun U => fw_Pre E o d μ U ∧ fw_S2 U)) (fw_Q E o' d' (some (.int r)) μ') 1 6 (fw_A E) := by
  refine va_MetW (cc := cL_damageByMasks) (maxL := 4) (ret := some .int) (by decide) rfl ?_
  intro p e s m args below meth c s₁ B hml hv
  obtain ⟨ha, ⟨hK, hP, hSt⟩, hN2⟩ := hv
  have hx := B.exec
  have hb := B.bytes
  have hr := B.returns
  have hts := atoms_spec (ws := (Cond.codeWith yL_damageByMasks cL_damageByMasks 4 (some .int) [(0, 9, 12, 13)] :: fw_U)) B.pre
  have hU : ∀ w ∈ fw_U, w.before args s = true := fun w hw => hts w (List.mem_cons_of_mem _ hw)
  have htab : c.exceptionTable.toList = [⟨0, 9, 12, 13⟩] := vx_table (x := yL_damageByMasks) B (hts _ List.mem_cons_self)
  have hown : s.vm.findClass RL = some m.cls := findClass_of_methodNamed B.named
  have hlocks := B.notSynchronized
  have EN : ∀ (H : Heap) (locs : List Loc) (ls : Array Slot), fw_P E o d μ H → va_S (fw_A E) s.heap H locs → lv_has ls 4 [(0, .ref (fw_ad E 0 10)), (1, .int x1), (2, .ref (fw_ad E 0 27))] → W p l e (headSpec (Cond.codeWith yL_damageByMasks cL_damageByMasks 4 (some .int) [(0, 9, 12, 13)] :: fw_U) ({ frames := 8, cells := 1, slots := 6, locals := 131 } : Room)).room s m args below meth c H locs 0 0 (MQ below (fw_Q E o' d' (some (.int r)) μ') args s 1 6 (fw_A E)) (F0 m 0 ls []) := by
    intro H locs ls hP hS hl
    unfold f_L_damageByMasks at h
    refine lv_aload_n hx hb dL_damageByMasks_0 rfl (lv_at hl 2 rfl) ?_
    refine lv_iconst (v := (0 : Int32)) hx hb dL_damageByMasks_1 (by decide) ?_
    refine lv_aload_n hx hb dL_damageByMasks_2 rfl (lv_at hl 0 rfl) ?_
    refine lv_iload_n hx hb dL_damageByMasks_3 rfl (lv_at hl 1 rfl) ?_
    obtain ⟨μ1, r1, k1, hc1, h⟩ := fw_b3_e h
    refine fw_xret (vx_runV (As := [.int x1]) (rest := [.int (0 : Int32), .ref (fw_ad E 0 27)]) ⟨hx, hb, hml, hown, hU⟩ (k_X9_damageByMasks l hst hE x1 hc1) (cwV 1 hU (fw_gV m_804 m_805 m_806 m_1 m_807) rfl rfl rfl (by decide +kernel) ⟨(Nat.le_of_ble_eq_true rfl), (Nat.le_of_ble_eq_true rfl)⟩) ⟨fw_blind, fw_recv hK hP (fw_V0 (f := 10) (by decide) (by decide)) rfl rfl, fun U hU9 hW9 => ⟨rfl, fw_pre hK hP hSt hS U hU9 hW9⟩⟩ rfl rfl hl.1 rfl (lv_room (Nat.le_of_ble_eq_true rfl)) dL_damageByMasks_4 ⟨(Nat.le_of_ble_eq_true rfl), (Nat.le_of_ble_eq_true rfl)⟩) hS (fun hk1 H locs hP hS => ?_) (fun hk1 H locs q ce hP hS hce hcv hcl => ?_)
    · rw [if_pos hk1] at h
      refine lv_i2l (v := r1.toInt64) hx hb dL_damageByMasks_7 rfl ?_
      refine fw_last hx hb hK hP hE hS dL_damageByMasks_8 (fun H locs hP hS => ?_)
      refine lv_goto (tgt := 15) hx hb dL_damageByMasks_9 (by decide) ?_
      refine lv_iconst (v := (0 : Int32)) hx hb dL_damageByMasks_15 (by decide) ?_
      refine W.widen (k := 1) (n := 6) (Nat.le_of_ble_eq_true rfl) (Nat.le_of_ble_eq_true rfl) ?_
      exact W.iret (v := (0 : Int32)) hx hb hr (fw_el h hP hS) hS.2.2 dL_damageByMasks_16
    · rw [if_neg hk1] at h
      by_cases e1_0 : k1 = 1
      · rw [if_pos e1_0] at h
        subst e1_0
        refine vx_catch (E := "java/lang/IndexOutOfBoundsException") hown [] ⟨0, 9, 12, 13⟩ [] htab (fun _ h9 => absurd h9 List.not_mem_nil) (by decide) (by decide) (hU (Cond.classLink RL 13 "java/lang/IndexOutOfBoundsException") m_338) (va_Nw.use rfl (hSt.1.2.1 _ (by decide +kernel))) hce hcv hcl ?_
        refine lv_astore_n (lv' := [(3, .ref q), (0, .ref (fw_ad E 0 10)), (1, .int x1), (2, .ref (fw_ad E 0 27))]) hx hb dL_damageByMasks_12 rfl hl (by decide) rfl (fun ls hl => ?_)
        refine lv_iconst (v := (1 : Int32)) hx hb dL_damageByMasks_13 (by decide) ?_
        refine W.widen (k := 1) (n := 6) (Nat.le_of_ble_eq_true rfl) (Nat.le_of_ble_eq_true rfl) ?_
        exact W.iret (v := (1 : Int32)) hx hb hr (fw_el h hP hS) hS.2.2 dL_damageByMasks_14
      · rw [if_neg e1_0] at h
        cases h
  subst ha
  have hl := lv_entry ([.ref (fw_ad E 0 10), .int x1, .ref (fw_ad E 0 27)]) (n := 4) (Nat.le_of_ble_eq_true rfl)
  rw [lg_entry_eq]
  generalize (lg_sl ([.ref (fw_ad E 0 10), .int x1, .ref (fw_ad E 0 27)]) ++ List.replicate (4 - (lg_sl ([.ref (fw_ad E 0 10), .int x1, .ref (fw_ad E 0 27)])).length) Slot.unset).toArray = ls at hl ⊢
  exact EN s.heap [] ls hP va_S.rf hl
set_option maxHeartbeats 4000000 in
set_option maxRecDepth 100000 in
theorem k_L_bestTemperature (l : Launch) (hst : l.stackTraces = false) {E : fw_E} {o o' : Int64} {d d' : UInt64} (hE : fw_ok E) {μ μ' : fw_M} (x1 : Int32) {r : Int32} (h : f_L_bestTemperature μ o d x1 = some (μ', o', d', r)) : Met l yL_bestTemperature (Cond.codeWith yL_bestTemperature cL_bestTemperature 4 (some .int) [(0, 9, 12, 13), (0, 9, 15, 17)] :: fw_U) ({ frames := 8, cells := 2, slots := 12, locals := 131 } : Room) (va_Pc [.ref (fw_ad E 0 10), .int x1, .ref (fw_ad E 0 27)] (fun U => fw_Pre E o d μ U ∧ fw_S2 U)) (fw_Q E o' d' (some (.int r)) μ') 2 12 (fw_A E) := by
  refine va_MetW (cc := cL_bestTemperature) (maxL := 4) (ret := some .int) (by decide) rfl ?_
  intro p e s m args below meth c s₁ B hml hv
  obtain ⟨ha, ⟨hK, hP, hSt⟩, hN2⟩ := hv
  have hx := B.exec
  have hb := B.bytes
  have hr := B.returns
  have hts := atoms_spec (ws := (Cond.codeWith yL_bestTemperature cL_bestTemperature 4 (some .int) [(0, 9, 12, 13), (0, 9, 15, 17)] :: fw_U)) B.pre
  have hU : ∀ w ∈ fw_U, w.before args s = true := fun w hw => hts w (List.mem_cons_of_mem _ hw)
  have htab : c.exceptionTable.toList = [⟨0, 9, 12, 13⟩, ⟨0, 9, 15, 17⟩] := vx_table (x := yL_bestTemperature) B (hts _ List.mem_cons_self)
  have hown : s.vm.findClass RL = some m.cls := findClass_of_methodNamed B.named
  have hlocks := B.notSynchronized
  have EN : ∀ (H : Heap) (locs : List Loc) (ls : Array Slot), fw_P E o d μ H → va_S (fw_A E) s.heap H locs → lv_has ls 4 [(0, .ref (fw_ad E 0 10)), (1, .int x1), (2, .ref (fw_ad E 0 27))] → W p l e (headSpec (Cond.codeWith yL_bestTemperature cL_bestTemperature 4 (some .int) [(0, 9, 12, 13), (0, 9, 15, 17)] :: fw_U) ({ frames := 8, cells := 2, slots := 12, locals := 131 } : Room)).room s m args below meth c H locs 0 0 (MQ below (fw_Q E o' d' (some (.int r)) μ') args s 2 12 (fw_A E)) (F0 m 0 ls []) := by
    intro H locs ls hP hS hl
    unfold f_L_bestTemperature at h
    refine lv_aload_n hx hb dL_bestTemperature_0 rfl (lv_at hl 2 rfl) ?_
    refine lv_iconst (v := (0 : Int32)) hx hb dL_bestTemperature_1 (by decide) ?_
    refine lv_aload_n hx hb dL_bestTemperature_2 rfl (lv_at hl 0 rfl) ?_
    refine lv_iload_n hx hb dL_bestTemperature_3 rfl (lv_at hl 1 rfl) ?_
    obtain ⟨μ1, r1, k1, hc1, h⟩ := fw_b3_e h
    refine fw_xret (vx_runV (As := [.int x1]) (rest := [.int (0 : Int32), .ref (fw_ad E 0 27)]) ⟨hx, hb, hml, hown, hU⟩ (k_X9_bestTemperature l hst hE x1 hc1) (cwV 1 hU (fw_gV m_811 m_812 m_813 m_1 m_814) rfl rfl rfl (by decide +kernel) ⟨(Nat.le_of_ble_eq_true rfl), (Nat.le_of_ble_eq_true rfl)⟩) ⟨fw_blind, fw_recv hK hP (fw_V0 (f := 10) (by decide) (by decide)) rfl rfl, fun U hU9 hW9 => ⟨rfl, fw_pre hK hP hSt hS U hU9 hW9⟩⟩ rfl rfl hl.1 rfl (lv_room (Nat.le_of_ble_eq_true rfl)) dL_bestTemperature_4 ⟨(Nat.le_of_ble_eq_true rfl), (Nat.le_of_ble_eq_true rfl)⟩) hS (fun hk1 H locs hP hS => ?_) (fun hk1 H locs q ce hP hS hce hcv hcl => ?_)
    · rw [if_pos hk1] at h
      refine lv_i2l (v := r1.toInt64) hx hb dL_bestTemperature_7 rfl ?_
      refine fw_last hx hb hK hP hE hS dL_bestTemperature_8 (fun H locs hP hS => ?_)
      refine lv_goto (tgt := 18) hx hb dL_bestTemperature_9 (by decide) ?_
      refine lv_iconst (v := (0 : Int32)) hx hb dL_bestTemperature_18 (by decide) ?_
      refine W.widen (k := 2) (n := 12) (Nat.le_of_ble_eq_true rfl) (Nat.le_of_ble_eq_true rfl) ?_
      exact W.iret (v := (0 : Int32)) hx hb hr (fw_el h hP hS) hS.2.2 dL_bestTemperature_19
    · rw [if_neg hk1] at h
      by_cases e1_0 : k1 = 1
      · rw [if_pos e1_0] at h
        subst e1_0
        refine vx_catch (E := "java/lang/IndexOutOfBoundsException") hown [] ⟨0, 9, 12, 13⟩ [⟨0, 9, 15, 17⟩] htab (fun _ h9 => absurd h9 List.not_mem_nil) (by decide) (by decide) (hU (Cond.classLink RL 13 "java/lang/IndexOutOfBoundsException") m_338) (va_Nw.use rfl (hSt.1.2.1 _ (by decide +kernel))) hce hcv hcl ?_
        refine lv_astore_n (lv' := [(3, .ref q), (0, .ref (fw_ad E 0 10)), (1, .int x1), (2, .ref (fw_ad E 0 27))]) hx hb dL_bestTemperature_12 rfl hl (by decide) rfl (fun ls hl => ?_)
        refine lv_iconst (v := (1 : Int32)) hx hb dL_bestTemperature_13 (by decide) ?_
        refine W.widen (k := 2) (n := 12) (Nat.le_of_ble_eq_true rfl) (Nat.le_of_ble_eq_true rfl) ?_
        exact W.iret (v := (1 : Int32)) hx hb hr (fw_el h hP hS) hS.2.2 dL_bestTemperature_14
      · rw [if_neg e1_0] at h
        by_cases e1_1 : k1 = 3
        · rw [if_pos e1_1] at h
          subst e1_1
          refine vx_catch (E := "java/lang/IllegalStateException") hown [⟨0, 9, 12, 13⟩] ⟨0, 9, 15, 17⟩ [] htab (fun z h9 => by rw [List.mem_singleton.mp h9]; exact Or.inr ⟨by decide, "java/lang/IndexOutOfBoundsException", (hU (Cond.classLink RL 13 "java/lang/IndexOutOfBoundsException") m_338), hN2 _ (List.mem_of_getElem? (i := 0) rfl)⟩) (by decide) (by decide) (hU (Cond.classLink RL 17 "java/lang/IllegalStateException") m_419) (va_Nw.use rfl (hSt.1.2.1 _ (by decide +kernel))) hce hcv hcl ?_
          refine lv_astore_n (lv' := [(3, .ref q), (0, .ref (fw_ad E 0 10)), (1, .int x1), (2, .ref (fw_ad E 0 27))]) hx hb dL_bestTemperature_15 rfl hl (by decide) rfl (fun ls hl => ?_)
          refine lv_iconst (v := (2 : Int32)) hx hb dL_bestTemperature_16 (by decide) ?_
          refine W.widen (k := 2) (n := 12) (Nat.le_of_ble_eq_true rfl) (Nat.le_of_ble_eq_true rfl) ?_
          exact W.iret (v := (2 : Int32)) hx hb hr (fw_el h hP hS) hS.2.2 dL_bestTemperature_17
        · rw [if_neg e1_1] at h
          cases h
  subst ha
  have hl := lv_entry ([.ref (fw_ad E 0 10), .int x1, .ref (fw_ad E 0 27)]) (n := 4) (Nat.le_of_ble_eq_true rfl)
  rw [lg_entry_eq]
  generalize (lg_sl ([.ref (fw_ad E 0 10), .int x1, .ref (fw_ad E 0 27)]) ++ List.replicate (4 - (lg_sl ([.ref (fw_ad E 0 10), .int x1, .ref (fw_ad E 0 27)])).length) Slot.unset).toArray = ls at hl ⊢
  exact EN s.heap [] ls hP va_S.rf hl
set_option maxHeartbeats 4000000 in
set_option maxRecDepth 100000 in
theorem k_L_price (l : Launch) (hst : l.stackTraces = false) {E : fw_E} {o o' : Int64} {d d' : UInt64} (hE : fw_ok E) {μ μ' : fw_M} (x1 : Int32) (x2 : Int32) {r : Int32} (h : f_L_price μ o d x1 x2 = some (μ', o', d', r)) : Met l yL_price (Cond.codeWith yL_price cL_price 5 (some .int) [(0, 10, 13, 13)] :: fw_U) ({ frames := 8, cells := 2, slots := 12, locals := 132 } : Room) (va_Pc [.ref (fw_ad E 0 10), .int x1, .int x2, .ref (fw_ad E 0 28)] (fun U => fw_Pre E o d μ U ∧ fw_S2 U)) (fw_Q E o' d' (some (.int r)) μ') 2 12 (fw_A E) := by
  refine va_MetW (cc := cL_price) (maxL := 5) (ret := some .int) (by decide) rfl ?_
  intro p e s m args below meth c s₁ B hml hv
  obtain ⟨ha, ⟨hK, hP, hSt⟩, hN2⟩ := hv
  have hx := B.exec
  have hb := B.bytes
  have hr := B.returns
  have hts := atoms_spec (ws := (Cond.codeWith yL_price cL_price 5 (some .int) [(0, 10, 13, 13)] :: fw_U)) B.pre
  have hU : ∀ w ∈ fw_U, w.before args s = true := fun w hw => hts w (List.mem_cons_of_mem _ hw)
  have htab : c.exceptionTable.toList = [⟨0, 10, 13, 13⟩] := vx_table (x := yL_price) B (hts _ List.mem_cons_self)
  have hown : s.vm.findClass RL = some m.cls := findClass_of_methodNamed B.named
  have hlocks := B.notSynchronized
  have EN : ∀ (H : Heap) (locs : List Loc) (ls : Array Slot), fw_P E o d μ H → va_S (fw_A E) s.heap H locs → lv_has ls 5 [(0, .ref (fw_ad E 0 10)), (1, .int x1), (2, .int x2), (3, .ref (fw_ad E 0 28))] → W p l e (headSpec (Cond.codeWith yL_price cL_price 5 (some .int) [(0, 10, 13, 13)] :: fw_U) ({ frames := 8, cells := 2, slots := 12, locals := 132 } : Room)).room s m args below meth c H locs 0 0 (MQ below (fw_Q E o' d' (some (.int r)) μ') args s 2 12 (fw_A E)) (F0 m 0 ls []) := by
    intro H locs ls hP hS hl
    unfold f_L_price at h
    refine lv_aload_n hx hb dL_price_0 rfl (lv_at hl 3 rfl) ?_
    refine lv_iconst (v := (0 : Int32)) hx hb dL_price_1 (by decide) ?_
    refine lv_aload_n hx hb dL_price_2 rfl (lv_at hl 0 rfl) ?_
    refine lv_iload_n hx hb dL_price_3 rfl (lv_at hl 1 rfl) ?_
    refine lv_iload_n hx hb dL_price_4 rfl (lv_at hl 2 rfl) ?_
    obtain ⟨μ1, r1, k1, hc1, h⟩ := fw_b3_e h
    refine fw_xret (vx_runV (As := [.int x1, .int x2]) (rest := [.int (0 : Int32), .ref (fw_ad E 0 28)]) ⟨hx, hb, hml, hown, hU⟩ (k_X9_price l hst hE x1 x2 hc1) (cwV 2 hU (fw_gV m_823 m_824 m_825 m_1 m_826) rfl rfl rfl (by decide +kernel) ⟨(Nat.le_of_ble_eq_true rfl), (Nat.le_of_ble_eq_true rfl)⟩) ⟨fw_blind, fw_recv hK hP (fw_V0 (f := 10) (by decide) (by decide)) rfl rfl, fun U hU9 hW9 => ⟨rfl, fw_pre hK hP hSt hS U hU9 hW9⟩⟩ rfl rfl hl.1 rfl (lv_room (Nat.le_of_ble_eq_true rfl)) dL_price_5 ⟨(Nat.le_of_ble_eq_true rfl), (Nat.le_of_ble_eq_true rfl)⟩) hS (fun hk1 H locs hP hS => ?_) (fun hk1 H locs q ce hP hS hce hcv hcl => ?_)
    · rw [if_pos hk1] at h
      obtain ⟨g2, h⟩ := fw_g_e h
      refine lv_f2d hx hb dL_price_8 (fw_f64_e g2) ?_
      refine fw_dast hx hb hK hP hE hS dL_price_9 (fun H locs hP hS => ?_)
      refine lv_goto (tgt := 17) hx hb dL_price_10 (by decide) ?_
      refine lv_iconst (v := (0 : Int32)) hx hb dL_price_17 (by decide) ?_
      refine W.widen (k := 2) (n := 12) (Nat.le_of_ble_eq_true rfl) (Nat.le_of_ble_eq_true rfl) ?_
      exact W.iret (v := (0 : Int32)) hx hb hr (fw_el h hP hS) hS.2.2 dL_price_18
    · rw [if_neg hk1] at h
      by_cases e1_0 : k1 = 1
      · rw [if_pos e1_0] at h
        subst e1_0
        refine vx_catch (E := "java/lang/IndexOutOfBoundsException") hown [] ⟨0, 10, 13, 13⟩ [] htab (fun _ h9 => absurd h9 List.not_mem_nil) (by decide) (by decide) (hU (Cond.classLink RL 13 "java/lang/IndexOutOfBoundsException") m_338) (va_Nw.use rfl (hSt.1.2.1 _ (by decide +kernel))) hce hcv hcl ?_
        refine lv_astore (lv' := [(4, .ref q), (0, .ref (fw_ad E 0 10)), (1, .int x1), (2, .int x2), (3, .ref (fw_ad E 0 28))]) hx hb dL_price_13 hl (by decide) rfl (fun ls hl => ?_)
        refine lv_iconst (v := (1 : Int32)) hx hb dL_price_15 (by decide) ?_
        refine W.widen (k := 2) (n := 12) (Nat.le_of_ble_eq_true rfl) (Nat.le_of_ble_eq_true rfl) ?_
        exact W.iret (v := (1 : Int32)) hx hb hr (fw_el h hP hS) hS.2.2 dL_price_16
      · rw [if_neg e1_0] at h
        cases h
  subst ha
  have hl := lv_entry ([.ref (fw_ad E 0 10), .int x1, .int x2, .ref (fw_ad E 0 28)]) (n := 5) (Nat.le_of_ble_eq_true rfl)
  rw [lg_entry_eq]
  generalize (lg_sl ([.ref (fw_ad E 0 10), .int x1, .int x2, .ref (fw_ad E 0 28)]) ++ List.replicate (5 - (lg_sl ([.ref (fw_ad E 0 10), .int x1, .int x2, .ref (fw_ad E 0 28)])).length) Slot.unset).toArray = ls at hl ⊢
  exact EN s.heap [] ls hP va_S.rf hl
set_option maxHeartbeats 4000000 in
set_option maxRecDepth 100000 in
theorem k_L_paid (l : Launch) (hst : l.stackTraces = false) {E : fw_E} {o o' : Int64} {d d' : UInt64} (hE : fw_ok E) {μ μ' : fw_M} (x1 : Int32) {r : Int32} (h : f_L_paid μ o d x1 = some (μ', o', d', r)) : Met l yL_paid (Cond.codeWith yL_paid cL_paid 4 (some .int) [(0, 9, 12, 13)] :: fw_U) ({ frames := 8, cells := 1, slots := 6, locals := 131 } : Room) (va_Pc [.ref (fw_ad E 0 10), .int x1, .ref (fw_ad E 0 28)] (fun U => fw_Pre E o d μ U ∧ fw_S2 U)) (fw_Q E o' d' (some (.int r)) μ') 1 6 (fw_A E) := by
  refine va_MetW (cc := cL_paid) (maxL := 4) (ret := some .int) (by decide) rfl ?_
  intro p e s m args below meth c s₁ B hml hv
  obtain ⟨ha, ⟨hK, hP, hSt⟩, hN2⟩ := hv
  have hx := B.exec
  have hb := B.bytes
  have hr := B.returns
  have hts := atoms_spec (ws := (Cond.codeWith yL_paid cL_paid 4 (some .int) [(0, 9, 12, 13)] :: fw_U)) B.pre
  have hU : ∀ w ∈ fw_U, w.before args s = true := fun w hw => hts w (List.mem_cons_of_mem _ hw)
  have htab : c.exceptionTable.toList = [⟨0, 9, 12, 13⟩] := vx_table (x := yL_paid) B (hts _ List.mem_cons_self)
  have hown : s.vm.findClass RL = some m.cls := findClass_of_methodNamed B.named
  have hlocks := B.notSynchronized
  have EN : ∀ (H : Heap) (locs : List Loc) (ls : Array Slot), fw_P E o d μ H → va_S (fw_A E) s.heap H locs → lv_has ls 4 [(0, .ref (fw_ad E 0 10)), (1, .int x1), (2, .ref (fw_ad E 0 28))] → W p l e (headSpec (Cond.codeWith yL_paid cL_paid 4 (some .int) [(0, 9, 12, 13)] :: fw_U) ({ frames := 8, cells := 1, slots := 6, locals := 131 } : Room)).room s m args below meth c H locs 0 0 (MQ below (fw_Q E o' d' (some (.int r)) μ') args s 1 6 (fw_A E)) (F0 m 0 ls []) := by
    intro H locs ls hP hS hl
    unfold f_L_paid at h
    refine lv_aload_n hx hb dL_paid_0 rfl (lv_at hl 2 rfl) ?_
    refine lv_iconst (v := (0 : Int32)) hx hb dL_paid_1 (by decide) ?_
    refine lv_aload_n hx hb dL_paid_2 rfl (lv_at hl 0 rfl) ?_
    refine lv_iload_n hx hb dL_paid_3 rfl (lv_at hl 1 rfl) ?_
    obtain ⟨μ1, r1, k1, hc1, h⟩ := fw_b3_e h
    refine fw_xret (vx_runV (As := [.int x1]) (rest := [.int (0 : Int32), .ref (fw_ad E 0 28)]) ⟨hx, hb, hml, hown, hU⟩ (k_X9_paid l hst hE x1 hc1) (cwV 1 hU (fw_gV m_831 m_832 m_833 m_1 m_834) rfl rfl rfl (by decide +kernel) ⟨(Nat.le_of_ble_eq_true rfl), (Nat.le_of_ble_eq_true rfl)⟩) ⟨fw_blind, fw_recv hK hP (fw_V0 (f := 10) (by decide) (by decide)) rfl rfl, fun U hU9 hW9 => ⟨rfl, fw_pre hK hP hSt hS U hU9 hW9⟩⟩ rfl rfl hl.1 rfl (lv_room (Nat.le_of_ble_eq_true rfl)) dL_paid_4 ⟨(Nat.le_of_ble_eq_true rfl), (Nat.le_of_ble_eq_true rfl)⟩) hS (fun hk1 H locs hP hS => ?_) (fun hk1 H locs q ce hP hS hce hcv hcl => ?_)
    · rw [if_pos hk1] at h
      obtain ⟨g2, h⟩ := fw_g_e h
      refine lv_f2d hx hb dL_paid_7 (fw_f64_e g2) ?_
      refine fw_dast hx hb hK hP hE hS dL_paid_8 (fun H locs hP hS => ?_)
      refine lv_goto (tgt := 15) hx hb dL_paid_9 (by decide) ?_
      refine lv_iconst (v := (0 : Int32)) hx hb dL_paid_15 (by decide) ?_
      refine W.widen (k := 1) (n := 6) (Nat.le_of_ble_eq_true rfl) (Nat.le_of_ble_eq_true rfl) ?_
      exact W.iret (v := (0 : Int32)) hx hb hr (fw_el h hP hS) hS.2.2 dL_paid_16
    · rw [if_neg hk1] at h
      by_cases e1_0 : k1 = 1
      · rw [if_pos e1_0] at h
        subst e1_0
        refine vx_catch (E := "java/lang/IndexOutOfBoundsException") hown [] ⟨0, 9, 12, 13⟩ [] htab (fun _ h9 => absurd h9 List.not_mem_nil) (by decide) (by decide) (hU (Cond.classLink RL 13 "java/lang/IndexOutOfBoundsException") m_338) (va_Nw.use rfl (hSt.1.2.1 _ (by decide +kernel))) hce hcv hcl ?_
        refine lv_astore_n (lv' := [(3, .ref q), (0, .ref (fw_ad E 0 10)), (1, .int x1), (2, .ref (fw_ad E 0 28))]) hx hb dL_paid_12 rfl hl (by decide) rfl (fun ls hl => ?_)
        refine lv_iconst (v := (1 : Int32)) hx hb dL_paid_13 (by decide) ?_
        refine W.widen (k := 1) (n := 6) (Nat.le_of_ble_eq_true rfl) (Nat.le_of_ble_eq_true rfl) ?_
        exact W.iret (v := (1 : Int32)) hx hb hr (fw_el h hP hS) hS.2.2 dL_paid_14
      · rw [if_neg e1_0] at h
        cases h
  subst ha
  have hl := lv_entry ([.ref (fw_ad E 0 10), .int x1, .ref (fw_ad E 0 28)]) (n := 4) (Nat.le_of_ble_eq_true rfl)
  rw [lg_entry_eq]
  generalize (lg_sl ([.ref (fw_ad E 0 10), .int x1, .ref (fw_ad E 0 28)]) ++ List.replicate (4 - (lg_sl ([.ref (fw_ad E 0 10), .int x1, .ref (fw_ad E 0 28)])).length) Slot.unset).toArray = ls at hl ⊢
  exact EN s.heap [] ls hP va_S.rf hl
set_option maxHeartbeats 4000000 in
set_option maxRecDepth 100000 in
theorem k_L_paidBits (l : Launch) (hst : l.stackTraces = false) {E : fw_E} {o o' : Int64} {d d' : UInt64} (hE : fw_ok E) {μ μ' : fw_M} (x1 : Int32) {r : Int32} (h : f_L_paidBits μ o d x1 = some (μ', o', d', r)) : Met l yL_paidBits (Cond.codeWith yL_paidBits cL_paidBits 4 (some .int) [(0, 9, 12, 13)] :: fw_U) ({ frames := 8, cells := 1, slots := 6, locals := 131 } : Room) (va_Pc [.ref (fw_ad E 0 10), .int x1, .ref (fw_ad E 0 27)] (fun U => fw_Pre E o d μ U ∧ fw_S2 U)) (fw_Q E o' d' (some (.int r)) μ') 1 6 (fw_A E) := by
  refine va_MetW (cc := cL_paidBits) (maxL := 4) (ret := some .int) (by decide) rfl ?_
  intro p e s m args below meth c s₁ B hml hv
  obtain ⟨ha, ⟨hK, hP, hSt⟩, hN2⟩ := hv
  have hx := B.exec
  have hb := B.bytes
  have hr := B.returns
  have hts := atoms_spec (ws := (Cond.codeWith yL_paidBits cL_paidBits 4 (some .int) [(0, 9, 12, 13)] :: fw_U)) B.pre
  have hU : ∀ w ∈ fw_U, w.before args s = true := fun w hw => hts w (List.mem_cons_of_mem _ hw)
  have htab : c.exceptionTable.toList = [⟨0, 9, 12, 13⟩] := vx_table (x := yL_paidBits) B (hts _ List.mem_cons_self)
  have hown : s.vm.findClass RL = some m.cls := findClass_of_methodNamed B.named
  have hlocks := B.notSynchronized
  have EN : ∀ (H : Heap) (locs : List Loc) (ls : Array Slot), fw_P E o d μ H → va_S (fw_A E) s.heap H locs → lv_has ls 4 [(0, .ref (fw_ad E 0 10)), (1, .int x1), (2, .ref (fw_ad E 0 27))] → W p l e (headSpec (Cond.codeWith yL_paidBits cL_paidBits 4 (some .int) [(0, 9, 12, 13)] :: fw_U) ({ frames := 8, cells := 1, slots := 6, locals := 131 } : Room)).room s m args below meth c H locs 0 0 (MQ below (fw_Q E o' d' (some (.int r)) μ') args s 1 6 (fw_A E)) (F0 m 0 ls []) := by
    intro H locs ls hP hS hl
    unfold f_L_paidBits at h
    refine lv_aload_n hx hb dL_paidBits_0 rfl (lv_at hl 2 rfl) ?_
    refine lv_iconst (v := (0 : Int32)) hx hb dL_paidBits_1 (by decide) ?_
    refine lv_aload_n hx hb dL_paidBits_2 rfl (lv_at hl 0 rfl) ?_
    refine lv_iload_n hx hb dL_paidBits_3 rfl (lv_at hl 1 rfl) ?_
    obtain ⟨μ1, r1, k1, hc1, h⟩ := fw_b3_e h
    refine fw_xret (vx_runV (As := [.int x1]) (rest := [.int (0 : Int32), .ref (fw_ad E 0 27)]) ⟨hx, hb, hml, hown, hU⟩ (k_X9_paidBits l hst hE x1 hc1) (cwV 1 hU (fw_gV m_838 m_839 m_840 m_1 m_841) rfl rfl rfl (by decide +kernel) ⟨(Nat.le_of_ble_eq_true rfl), (Nat.le_of_ble_eq_true rfl)⟩) ⟨fw_blind, fw_recv hK hP (fw_V0 (f := 10) (by decide) (by decide)) rfl rfl, fun U hU9 hW9 => ⟨rfl, fw_pre hK hP hSt hS U hU9 hW9⟩⟩ rfl rfl hl.1 rfl (lv_room (Nat.le_of_ble_eq_true rfl)) dL_paidBits_4 ⟨(Nat.le_of_ble_eq_true rfl), (Nat.le_of_ble_eq_true rfl)⟩) hS (fun hk1 H locs hP hS => ?_) (fun hk1 H locs q ce hP hS hce hcv hcl => ?_)
    · rw [if_pos hk1] at h
      refine lv_i2l (v := r1.toInt64) hx hb dL_paidBits_7 rfl ?_
      refine fw_last hx hb hK hP hE hS dL_paidBits_8 (fun H locs hP hS => ?_)
      refine lv_goto (tgt := 15) hx hb dL_paidBits_9 (by decide) ?_
      refine lv_iconst (v := (0 : Int32)) hx hb dL_paidBits_15 (by decide) ?_
      refine W.widen (k := 1) (n := 6) (Nat.le_of_ble_eq_true rfl) (Nat.le_of_ble_eq_true rfl) ?_
      exact W.iret (v := (0 : Int32)) hx hb hr (fw_el h hP hS) hS.2.2 dL_paidBits_16
    · rw [if_neg hk1] at h
      by_cases e1_0 : k1 = 1
      · rw [if_pos e1_0] at h
        subst e1_0
        refine vx_catch (E := "java/lang/IndexOutOfBoundsException") hown [] ⟨0, 9, 12, 13⟩ [] htab (fun _ h9 => absurd h9 List.not_mem_nil) (by decide) (by decide) (hU (Cond.classLink RL 13 "java/lang/IndexOutOfBoundsException") m_338) (va_Nw.use rfl (hSt.1.2.1 _ (by decide +kernel))) hce hcv hcl ?_
        refine lv_astore_n (lv' := [(3, .ref q), (0, .ref (fw_ad E 0 10)), (1, .int x1), (2, .ref (fw_ad E 0 27))]) hx hb dL_paidBits_12 rfl hl (by decide) rfl (fun ls hl => ?_)
        refine lv_iconst (v := (1 : Int32)) hx hb dL_paidBits_13 (by decide) ?_
        refine W.widen (k := 1) (n := 6) (Nat.le_of_ble_eq_true rfl) (Nat.le_of_ble_eq_true rfl) ?_
        exact W.iret (v := (1 : Int32)) hx hb hr (fw_el h hP hS) hS.2.2 dL_paidBits_14
      · rw [if_neg e1_0] at h
        cases h
  subst ha
  have hl := lv_entry ([.ref (fw_ad E 0 10), .int x1, .ref (fw_ad E 0 27)]) (n := 4) (Nat.le_of_ble_eq_true rfl)
  rw [lg_entry_eq]
  generalize (lg_sl ([.ref (fw_ad E 0 10), .int x1, .ref (fw_ad E 0 27)]) ++ List.replicate (4 - (lg_sl ([.ref (fw_ad E 0 10), .int x1, .ref (fw_ad E 0 27)])).length) Slot.unset).toArray = ls at hl ⊢
  exact EN s.heap [] ls hP va_S.rf hl
set_option maxHeartbeats 4000000 in
set_option maxRecDepth 100000 in
theorem k_L_packed (l : Launch) (hst : l.stackTraces = false) {E : fw_E} {o o' : Int64} {d d' : UInt64} (hE : fw_ok E) {μ μ' : fw_M} (x1 : Int32) {r : Int32} (h : f_L_packed μ o d x1 = some (μ', o', d', r)) : Met l yL_packed (Cond.codeWith yL_packed cL_packed 4 (some .int) [(0, 8, 11, 13)] :: fw_U) ({ frames := 8, cells := 1, slots := 6, locals := 132 } : Room) (va_Pc [.ref (fw_ad E 0 10), .int x1, .ref (fw_ad E 0 27)] (fun U => fw_Pre E o d μ U ∧ fw_S2 U)) (fw_Q E o' d' (some (.int r)) μ') 1 6 (fw_A E) := by
  refine va_MetW (cc := cL_packed) (maxL := 4) (ret := some .int) (by decide) rfl ?_
  intro p e s m args below meth c s₁ B hml hv
  obtain ⟨ha, ⟨hK, hP, hSt⟩, hN2⟩ := hv
  have hx := B.exec
  have hb := B.bytes
  have hr := B.returns
  have hts := atoms_spec (ws := (Cond.codeWith yL_packed cL_packed 4 (some .int) [(0, 8, 11, 13)] :: fw_U)) B.pre
  have hU : ∀ w ∈ fw_U, w.before args s = true := fun w hw => hts w (List.mem_cons_of_mem _ hw)
  have htab : c.exceptionTable.toList = [⟨0, 8, 11, 13⟩] := vx_table (x := yL_packed) B (hts _ List.mem_cons_self)
  have hown : s.vm.findClass RL = some m.cls := findClass_of_methodNamed B.named
  have hlocks := B.notSynchronized
  have EN : ∀ (H : Heap) (locs : List Loc) (ls : Array Slot), fw_P E o d μ H → va_S (fw_A E) s.heap H locs → lv_has ls 4 [(0, .ref (fw_ad E 0 10)), (1, .int x1), (2, .ref (fw_ad E 0 27))] → W p l e (headSpec (Cond.codeWith yL_packed cL_packed 4 (some .int) [(0, 8, 11, 13)] :: fw_U) ({ frames := 8, cells := 1, slots := 6, locals := 132 } : Room)).room s m args below meth c H locs 0 0 (MQ below (fw_Q E o' d' (some (.int r)) μ') args s 1 6 (fw_A E)) (F0 m 0 ls []) := by
    intro H locs ls hP hS hl
    unfold f_L_packed at h
    refine lv_aload_n hx hb dL_packed_0 rfl (lv_at hl 2 rfl) ?_
    refine lv_iconst (v := (0 : Int32)) hx hb dL_packed_1 (by decide) ?_
    refine lv_aload_n hx hb dL_packed_2 rfl (lv_at hl 0 rfl) ?_
    refine lv_iload_n hx hb dL_packed_3 rfl (lv_at hl 1 rfl) ?_
    obtain ⟨μ1, r1, k1, hc1, h⟩ := fw_b3_e h
    refine fw_xret (vx_runV (As := [.int x1]) (rest := [.int (0 : Int32), .ref (fw_ad E 0 27)]) ⟨hx, hb, hml, hown, hU⟩ (k_X9_packed l hst hE x1 hc1) (cwV 1 hU (fw_gV m_845 m_846 m_847 m_1 m_848) rfl rfl rfl (by decide +kernel) ⟨(Nat.le_of_ble_eq_true rfl), (Nat.le_of_ble_eq_true rfl)⟩) ⟨fw_blind, fw_recv hK hP (fw_V0 (f := 10) (by decide) (by decide)) rfl rfl, fun U hU9 hW9 => ⟨rfl, fw_pre hK hP hSt hS U hU9 hW9⟩⟩ rfl rfl hl.1 rfl (lv_room (Nat.le_of_ble_eq_true rfl)) dL_packed_4 ⟨(Nat.le_of_ble_eq_true rfl), (Nat.le_of_ble_eq_true rfl)⟩) hS (fun hk1 H locs hP hS => ?_) (fun hk1 H locs q ce hP hS hce hcv hcl => ?_)
    · rw [if_pos hk1] at h
      refine fw_last hx hb hK hP hE hS dL_packed_7 (fun H locs hP hS => ?_)
      refine lv_goto (tgt := 14) hx hb dL_packed_8 (by decide) ?_
      refine lv_iconst (v := (0 : Int32)) hx hb dL_packed_14 (by decide) ?_
      refine W.widen (k := 1) (n := 6) (Nat.le_of_ble_eq_true rfl) (Nat.le_of_ble_eq_true rfl) ?_
      exact W.iret (v := (0 : Int32)) hx hb hr (fw_el h hP hS) hS.2.2 dL_packed_15
    · rw [if_neg hk1] at h
      by_cases e1_0 : k1 = 1
      · rw [if_pos e1_0] at h
        subst e1_0
        refine vx_catch (E := "java/lang/IndexOutOfBoundsException") hown [] ⟨0, 8, 11, 13⟩ [] htab (fun _ h9 => absurd h9 List.not_mem_nil) (by decide) (by decide) (hU (Cond.classLink RL 13 "java/lang/IndexOutOfBoundsException") m_338) (va_Nw.use rfl (hSt.1.2.1 _ (by decide +kernel))) hce hcv hcl ?_
        refine lv_astore_n (lv' := [(3, .ref q), (0, .ref (fw_ad E 0 10)), (1, .int x1), (2, .ref (fw_ad E 0 27))]) hx hb dL_packed_11 rfl hl (by decide) rfl (fun ls hl => ?_)
        refine lv_iconst (v := (1 : Int32)) hx hb dL_packed_12 (by decide) ?_
        refine W.widen (k := 1) (n := 6) (Nat.le_of_ble_eq_true rfl) (Nat.le_of_ble_eq_true rfl) ?_
        exact W.iret (v := (1 : Int32)) hx hb hr (fw_el h hP hS) hS.2.2 dL_packed_13
      · rw [if_neg e1_0] at h
        cases h
  subst ha
  have hl := lv_entry ([.ref (fw_ad E 0 10), .int x1, .ref (fw_ad E 0 27)]) (n := 4) (Nat.le_of_ble_eq_true rfl)
  rw [lg_entry_eq]
  generalize (lg_sl ([.ref (fw_ad E 0 10), .int x1, .ref (fw_ad E 0 27)]) ++ List.replicate (4 - (lg_sl ([.ref (fw_ad E 0 10), .int x1, .ref (fw_ad E 0 27)])).length) Slot.unset).toArray = ls at hl ⊢
  exact EN s.heap [] ls hP va_S.rf hl
set_option maxHeartbeats 4000000 in
set_option maxRecDepth 100000 in
theorem k_L_dirtiest (l : Launch) (hst : l.stackTraces = false) {E : fw_E} {o o' : Int64} {d d' : UInt64} (hE : fw_ok E) {μ μ' : fw_M} (x1 : Int32) {r : Int32} (h : f_L_dirtiest μ o d x1 = some (μ', o', d', r)) : Met l yL_dirtiest (Cond.codeWith yL_dirtiest cL_dirtiest 4 (some .int) [(0, 9, 12, 62)] :: fw_U) ({ frames := 7, cells := 1, slots := 6, locals := 112 } : Room) (va_Pc [.ref (fw_ad E 0 10), .int x1, .ref (fw_ad E 0 27)] (fun U => fw_Pre E o d μ U ∧ fw_S2 U)) (fw_Q E o' d' (some (.int r)) μ') 1 6 (fw_A E) := by
  refine va_MetW (cc := cL_dirtiest) (maxL := 4) (ret := some .int) (by decide) rfl ?_
  intro p e s m args below meth c s₁ B hml hv
  obtain ⟨ha, ⟨hK, hP, hSt⟩, hN2⟩ := hv
  have hx := B.exec
  have hb := B.bytes
  have hr := B.returns
  have hts := atoms_spec (ws := (Cond.codeWith yL_dirtiest cL_dirtiest 4 (some .int) [(0, 9, 12, 62)] :: fw_U)) B.pre
  have hU : ∀ w ∈ fw_U, w.before args s = true := fun w hw => hts w (List.mem_cons_of_mem _ hw)
  have htab : c.exceptionTable.toList = [⟨0, 9, 12, 62⟩] := vx_table (x := yL_dirtiest) B (hts _ List.mem_cons_self)
  have hown : s.vm.findClass RL = some m.cls := findClass_of_methodNamed B.named
  have hlocks := B.notSynchronized
  have EN : ∀ (H : Heap) (locs : List Loc) (ls : Array Slot), fw_P E o d μ H → va_S (fw_A E) s.heap H locs → lv_has ls 4 [(0, .ref (fw_ad E 0 10)), (1, .int x1), (2, .ref (fw_ad E 0 27))] → W p l e (headSpec (Cond.codeWith yL_dirtiest cL_dirtiest 4 (some .int) [(0, 9, 12, 62)] :: fw_U) ({ frames := 7, cells := 1, slots := 6, locals := 112 } : Room)).room s m args below meth c H locs 0 0 (MQ below (fw_Q E o' d' (some (.int r)) μ') args s 1 6 (fw_A E)) (F0 m 0 ls []) := by
    intro H locs ls hP hS hl
    unfold f_L_dirtiest at h
    refine lv_aload_n hx hb dL_dirtiest_0 rfl (lv_at hl 2 rfl) ?_
    refine lv_iconst (v := (0 : Int32)) hx hb dL_dirtiest_1 (by decide) ?_
    refine lv_aload_n hx hb dL_dirtiest_2 rfl (lv_at hl 0 rfl) ?_
    refine lv_iload_n hx hb dL_dirtiest_3 rfl (lv_at hl 1 rfl) ?_
    obtain ⟨μ1, r1, k1, hc1, h⟩ := fw_b3_e h
    refine fw_xret (vx_runV (As := [.int x1]) (rest := [.int (0 : Int32), .ref (fw_ad E 0 27)]) ⟨hx, hb, hml, hown, hU⟩ (k_X9_dirtiest l hst hE x1 hc1) (cwV 1 hU (fw_gV m_856 m_857 m_858 m_1 m_859) rfl rfl rfl (by decide +kernel) ⟨(Nat.le_of_ble_eq_true rfl), (Nat.le_of_ble_eq_true rfl)⟩) ⟨fw_blind, fw_recv hK hP (fw_V0 (f := 10) (by decide) (by decide)) rfl rfl, fun U hU9 hW9 => ⟨rfl, fw_pre hK hP hSt hS U hU9 hW9⟩⟩ rfl rfl hl.1 rfl (lv_room (Nat.le_of_ble_eq_true rfl)) dL_dirtiest_4 ⟨(Nat.le_of_ble_eq_true rfl), (Nat.le_of_ble_eq_true rfl)⟩) hS (fun hk1 H locs hP hS => ?_) (fun hk1 H locs q ce hP hS hce hcv hcl => ?_)
    · rw [if_pos hk1] at h
      refine lv_i2l (v := r1.toInt64) hx hb dL_dirtiest_7 rfl ?_
      refine fw_last hx hb hK hP hE hS dL_dirtiest_8 (fun H locs hP hS => ?_)
      refine lv_goto (tgt := 15) hx hb dL_dirtiest_9 (by decide) ?_
      refine lv_iconst (v := (0 : Int32)) hx hb dL_dirtiest_15 (by decide) ?_
      refine W.widen (k := 1) (n := 6) (Nat.le_of_ble_eq_true rfl) (Nat.le_of_ble_eq_true rfl) ?_
      exact W.iret (v := (0 : Int32)) hx hb hr (fw_el h hP hS) hS.2.2 dL_dirtiest_16
    · rw [if_neg hk1] at h
      by_cases e1_0 : k1 = 5
      · rw [if_pos e1_0] at h
        subst e1_0
        refine vx_catch (E := "java/util/NoSuchElementException") hown [] ⟨0, 9, 12, 62⟩ [] htab (fun _ h9 => absurd h9 List.not_mem_nil) (by decide) (by decide) (hU (Cond.classLink RL 62 "java/util/NoSuchElementException") m_680) (va_Nw.use rfl (hSt.1.2.1 _ (by decide +kernel))) hce hcv hcl ?_
        refine lv_astore_n (lv' := [(3, .ref q), (0, .ref (fw_ad E 0 10)), (1, .int x1), (2, .ref (fw_ad E 0 27))]) hx hb dL_dirtiest_12 rfl hl (by decide) rfl (fun ls hl => ?_)
        refine lv_iconst (v := (1 : Int32)) hx hb dL_dirtiest_13 (by decide) ?_
        refine W.widen (k := 1) (n := 6) (Nat.le_of_ble_eq_true rfl) (Nat.le_of_ble_eq_true rfl) ?_
        exact W.iret (v := (1 : Int32)) hx hb hr (fw_el h hP hS) hS.2.2 dL_dirtiest_14
      · rw [if_neg e1_0] at h
        cases h
  subst ha
  have hl := lv_entry ([.ref (fw_ad E 0 10), .int x1, .ref (fw_ad E 0 27)]) (n := 4) (Nat.le_of_ble_eq_true rfl)
  rw [lg_entry_eq]
  generalize (lg_sl ([.ref (fw_ad E 0 10), .int x1, .ref (fw_ad E 0 27)]) ++ List.replicate (4 - (lg_sl ([.ref (fw_ad E 0 10), .int x1, .ref (fw_ad E 0 27)])).length) Slot.unset).toArray = ls at hl ⊢
  exact EN s.heap [] ls hP va_S.rf hl
set_option maxHeartbeats 4000000 in
set_option maxRecDepth 100000 in
theorem k_L_spender (l : Launch) (hst : l.stackTraces = false) {E : fw_E} {o o' : Int64} {d d' : UInt64} (hE : fw_ok E) {μ μ' : fw_M} (x1 : Int32) {r : Int32} (h : f_L_spender μ o d x1 = some (μ', o', d', r)) : Met l yL_spender (Cond.codeWith yL_spender cL_spender 4 (some .int) [(0, 9, 12, 62)] :: fw_U) ({ frames := 7, cells := 1, slots := 6, locals := 112 } : Room) (va_Pc [.ref (fw_ad E 0 10), .int x1, .ref (fw_ad E 0 27)] (fun U => fw_Pre E o d μ U ∧ fw_S2 U)) (fw_Q E o' d' (some (.int r)) μ') 1 6 (fw_A E) := by
  refine va_MetW (cc := cL_spender) (maxL := 4) (ret := some .int) (by decide) rfl ?_
  intro p e s m args below meth c s₁ B hml hv
  obtain ⟨ha, ⟨hK, hP, hSt⟩, hN2⟩ := hv
  have hx := B.exec
  have hb := B.bytes
  have hr := B.returns
  have hts := atoms_spec (ws := (Cond.codeWith yL_spender cL_spender 4 (some .int) [(0, 9, 12, 62)] :: fw_U)) B.pre
  have hU : ∀ w ∈ fw_U, w.before args s = true := fun w hw => hts w (List.mem_cons_of_mem _ hw)
  have htab : c.exceptionTable.toList = [⟨0, 9, 12, 62⟩] := vx_table (x := yL_spender) B (hts _ List.mem_cons_self)
  have hown : s.vm.findClass RL = some m.cls := findClass_of_methodNamed B.named
  have hlocks := B.notSynchronized
  have EN : ∀ (H : Heap) (locs : List Loc) (ls : Array Slot), fw_P E o d μ H → va_S (fw_A E) s.heap H locs → lv_has ls 4 [(0, .ref (fw_ad E 0 10)), (1, .int x1), (2, .ref (fw_ad E 0 27))] → W p l e (headSpec (Cond.codeWith yL_spender cL_spender 4 (some .int) [(0, 9, 12, 62)] :: fw_U) ({ frames := 7, cells := 1, slots := 6, locals := 112 } : Room)).room s m args below meth c H locs 0 0 (MQ below (fw_Q E o' d' (some (.int r)) μ') args s 1 6 (fw_A E)) (F0 m 0 ls []) := by
    intro H locs ls hP hS hl
    unfold f_L_spender at h
    refine lv_aload_n hx hb dL_spender_0 rfl (lv_at hl 2 rfl) ?_
    refine lv_iconst (v := (0 : Int32)) hx hb dL_spender_1 (by decide) ?_
    refine lv_aload_n hx hb dL_spender_2 rfl (lv_at hl 0 rfl) ?_
    refine lv_iload_n hx hb dL_spender_3 rfl (lv_at hl 1 rfl) ?_
    obtain ⟨μ1, r1, k1, hc1, h⟩ := fw_b3_e h
    refine fw_xret (vx_runV (As := [.int x1]) (rest := [.int (0 : Int32), .ref (fw_ad E 0 27)]) ⟨hx, hb, hml, hown, hU⟩ (k_X9_spender l hst hE x1 hc1) (cwV 1 hU (fw_gV m_868 m_869 m_870 m_1 m_871) rfl rfl rfl (by decide +kernel) ⟨(Nat.le_of_ble_eq_true rfl), (Nat.le_of_ble_eq_true rfl)⟩) ⟨fw_blind, fw_recv hK hP (fw_V0 (f := 10) (by decide) (by decide)) rfl rfl, fun U hU9 hW9 => ⟨rfl, fw_pre hK hP hSt hS U hU9 hW9⟩⟩ rfl rfl hl.1 rfl (lv_room (Nat.le_of_ble_eq_true rfl)) dL_spender_4 ⟨(Nat.le_of_ble_eq_true rfl), (Nat.le_of_ble_eq_true rfl)⟩) hS (fun hk1 H locs hP hS => ?_) (fun hk1 H locs q ce hP hS hce hcv hcl => ?_)
    · rw [if_pos hk1] at h
      refine lv_i2l (v := r1.toInt64) hx hb dL_spender_7 rfl ?_
      refine fw_last hx hb hK hP hE hS dL_spender_8 (fun H locs hP hS => ?_)
      refine lv_goto (tgt := 15) hx hb dL_spender_9 (by decide) ?_
      refine lv_iconst (v := (0 : Int32)) hx hb dL_spender_15 (by decide) ?_
      refine W.widen (k := 1) (n := 6) (Nat.le_of_ble_eq_true rfl) (Nat.le_of_ble_eq_true rfl) ?_
      exact W.iret (v := (0 : Int32)) hx hb hr (fw_el h hP hS) hS.2.2 dL_spender_16
    · rw [if_neg hk1] at h
      by_cases e1_0 : k1 = 5
      · rw [if_pos e1_0] at h
        subst e1_0
        refine vx_catch (E := "java/util/NoSuchElementException") hown [] ⟨0, 9, 12, 62⟩ [] htab (fun _ h9 => absurd h9 List.not_mem_nil) (by decide) (by decide) (hU (Cond.classLink RL 62 "java/util/NoSuchElementException") m_680) (va_Nw.use rfl (hSt.1.2.1 _ (by decide +kernel))) hce hcv hcl ?_
        refine lv_astore_n (lv' := [(3, .ref q), (0, .ref (fw_ad E 0 10)), (1, .int x1), (2, .ref (fw_ad E 0 27))]) hx hb dL_spender_12 rfl hl (by decide) rfl (fun ls hl => ?_)
        refine lv_iconst (v := (1 : Int32)) hx hb dL_spender_13 (by decide) ?_
        refine W.widen (k := 1) (n := 6) (Nat.le_of_ble_eq_true rfl) (Nat.le_of_ble_eq_true rfl) ?_
        exact W.iret (v := (1 : Int32)) hx hb hr (fw_el h hP hS) hS.2.2 dL_spender_14
      · rw [if_neg e1_0] at h
        cases h
  subst ha
  have hl := lv_entry ([.ref (fw_ad E 0 10), .int x1, .ref (fw_ad E 0 27)]) (n := 4) (Nat.le_of_ble_eq_true rfl)
  rw [lg_entry_eq]
  generalize (lg_sl ([.ref (fw_ad E 0 10), .int x1, .ref (fw_ad E 0 27)]) ++ List.replicate (4 - (lg_sl ([.ref (fw_ad E 0 10), .int x1, .ref (fw_ad E 0 27)])).length) Slot.unset).toArray = ls at hl ⊢
  exact EN s.heap [] ls hP va_S.rf hl
set_option maxHeartbeats 4000000 in
set_option maxRecDepth 100000 in
theorem k_L_meanStains (l : Launch) (hst : l.stackTraces = false) {E : fw_E} {o o' : Int64} {d d' : UInt64} (hE : fw_ok E) {μ μ' : fw_M} {r : Int32} (h : f_L_meanStains μ o d = some (μ', o', d', r)) : Met l yL_meanStains (Cond.codeWith yL_meanStains cL_meanStains 3 (some .int) [(0, 7, 10, 124)] :: fw_U) ({ frames := 7, cells := 1, slots := 6, locals := 113 } : Room) (va_Pc [.ref (fw_ad E 0 10), .ref (fw_ad E 0 28)] (fun U => fw_Pre E o d μ U ∧ fw_S2 U)) (fw_Q E o' d' (some (.int r)) μ') 1 6 (fw_A E) := by
  refine va_MetW (cc := cL_meanStains) (maxL := 3) (ret := some .int) (by decide) rfl ?_
  intro p e s m args below meth c s₁ B hml hv
  obtain ⟨ha, ⟨hK, hP, hSt⟩, hN2⟩ := hv
  have hx := B.exec
  have hb := B.bytes
  have hr := B.returns
  have hts := atoms_spec (ws := (Cond.codeWith yL_meanStains cL_meanStains 3 (some .int) [(0, 7, 10, 124)] :: fw_U)) B.pre
  have hU : ∀ w ∈ fw_U, w.before args s = true := fun w hw => hts w (List.mem_cons_of_mem _ hw)
  have htab : c.exceptionTable.toList = [⟨0, 7, 10, 124⟩] := vx_table (x := yL_meanStains) B (hts _ List.mem_cons_self)
  have hown : s.vm.findClass RL = some m.cls := findClass_of_methodNamed B.named
  have hlocks := B.notSynchronized
  have EN : ∀ (H : Heap) (locs : List Loc) (ls : Array Slot), fw_P E o d μ H → va_S (fw_A E) s.heap H locs → lv_has ls 3 [(0, .ref (fw_ad E 0 10)), (1, .ref (fw_ad E 0 28))] → W p l e (headSpec (Cond.codeWith yL_meanStains cL_meanStains 3 (some .int) [(0, 7, 10, 124)] :: fw_U) ({ frames := 7, cells := 1, slots := 6, locals := 113 } : Room)).room s m args below meth c H locs 0 0 (MQ below (fw_Q E o' d' (some (.int r)) μ') args s 1 6 (fw_A E)) (F0 m 0 ls []) := by
    intro H locs ls hP hS hl
    unfold f_L_meanStains at h
    refine lv_aload_n hx hb dL_meanStains_0 rfl (lv_at hl 1 rfl) ?_
    refine lv_iconst (v := (0 : Int32)) hx hb dL_meanStains_1 (by decide) ?_
    refine lv_aload_n hx hb dL_meanStains_2 rfl (lv_at hl 0 rfl) ?_
    obtain ⟨μ1, r1, k1, hc1, h⟩ := fw_b3_e h
    refine fw_xret (vx_runV (As := []) (rest := [.int (0 : Int32), .ref (fw_ad E 0 28)]) ⟨hx, hb, hml, hown, hU⟩ (k_X9_meanStains l hst hE hc1) (cwV 0 hU (fw_gV m_894 m_895 m_896 m_1 m_897) rfl rfl rfl (by decide +kernel) ⟨(Nat.le_of_ble_eq_true rfl), (Nat.le_of_ble_eq_true rfl)⟩) ⟨fw_blind, fw_recv hK hP (fw_V0 (f := 10) (by decide) (by decide)) rfl rfl, fun U hU9 hW9 => ⟨rfl, fw_pre hK hP hSt hS U hU9 hW9⟩⟩ rfl rfl hl.1 rfl (lv_room (Nat.le_of_ble_eq_true rfl)) dL_meanStains_3 ⟨(Nat.le_of_ble_eq_true rfl), (Nat.le_of_ble_eq_true rfl)⟩) hS (fun hk1 H locs hP hS => ?_) (fun hk1 H locs q ce hP hS hce hcv hcl => ?_)
    · rw [if_pos hk1] at h
      refine fw_dast hx hb hK hP hE hS dL_meanStains_6 (fun H locs hP hS => ?_)
      refine lv_goto (tgt := 13) hx hb dL_meanStains_7 (by decide) ?_
      refine lv_iconst (v := (0 : Int32)) hx hb dL_meanStains_13 (by decide) ?_
      refine W.widen (k := 1) (n := 6) (Nat.le_of_ble_eq_true rfl) (Nat.le_of_ble_eq_true rfl) ?_
      exact W.iret (v := (0 : Int32)) hx hb hr (fw_el h hP hS) hS.2.2 dL_meanStains_14
    · rw [if_neg hk1] at h
      by_cases e1_0 : k1 = 6
      · rw [if_pos e1_0] at h
        subst e1_0
        refine vx_catch (E := "java/lang/ArithmeticException") hown [] ⟨0, 7, 10, 124⟩ [] htab (fun _ h9 => absurd h9 List.not_mem_nil) (by decide) (by decide) (hU (Cond.classLink RL 124 "java/lang/ArithmeticException") m_880) (va_Nw.use rfl (hSt.1.2.1 _ (by decide +kernel))) hce hcv hcl ?_
        refine lv_astore_n (lv' := [(2, .ref q), (0, .ref (fw_ad E 0 10)), (1, .ref (fw_ad E 0 28))]) hx hb dL_meanStains_10 rfl hl (by decide) rfl (fun ls hl => ?_)
        refine lv_iconst (v := (1 : Int32)) hx hb dL_meanStains_11 (by decide) ?_
        refine W.widen (k := 1) (n := 6) (Nat.le_of_ble_eq_true rfl) (Nat.le_of_ble_eq_true rfl) ?_
        exact W.iret (v := (1 : Int32)) hx hb hr (fw_el h hP hS) hS.2.2 dL_meanStains_12
      · rw [if_neg e1_0] at h
        cases h
  subst ha
  have hl := lv_entry ([.ref (fw_ad E 0 10), .ref (fw_ad E 0 28)]) (n := 3) (Nat.le_of_ble_eq_true rfl)
  rw [lg_entry_eq]
  generalize (lg_sl ([.ref (fw_ad E 0 10), .ref (fw_ad E 0 28)]) ++ List.replicate (3 - (lg_sl ([.ref (fw_ad E 0 10), .ref (fw_ad E 0 28)])).length) Slot.unset).toArray = ls at hl ⊢
  exact EN s.heap [] ls hP va_S.rf hl
set_option maxHeartbeats 4000000 in
set_option maxRecDepth 100000 in
theorem k_L_lostShare (l : Launch) (hst : l.stackTraces = false) {E : fw_E} {o o' : Int64} {d d' : UInt64} (hE : fw_ok E) {μ μ' : fw_M} {r : Int32} (h : f_L_lostShare μ o d = some (μ', o', d', r)) : Met l yL_lostShare (Cond.codeWith yL_lostShare cL_lostShare 3 (some .int) [(0, 8, 11, 124)] :: fw_U) ({ frames := 7, cells := 1, slots := 6, locals := 111 } : Room) (va_Pc [.ref (fw_ad E 0 10), .ref (fw_ad E 0 28)] (fun U => fw_Pre E o d μ U ∧ fw_S2 U)) (fw_Q E o' d' (some (.int r)) μ') 1 6 (fw_A E) := by
  refine va_MetW (cc := cL_lostShare) (maxL := 3) (ret := some .int) (by decide) rfl ?_
  intro p e s m args below meth c s₁ B hml hv
  obtain ⟨ha, ⟨hK, hP, hSt⟩, hN2⟩ := hv
  have hx := B.exec
  have hb := B.bytes
  have hr := B.returns
  have hts := atoms_spec (ws := (Cond.codeWith yL_lostShare cL_lostShare 3 (some .int) [(0, 8, 11, 124)] :: fw_U)) B.pre
  have hU : ∀ w ∈ fw_U, w.before args s = true := fun w hw => hts w (List.mem_cons_of_mem _ hw)
  have htab : c.exceptionTable.toList = [⟨0, 8, 11, 124⟩] := vx_table (x := yL_lostShare) B (hts _ List.mem_cons_self)
  have hown : s.vm.findClass RL = some m.cls := findClass_of_methodNamed B.named
  have hlocks := B.notSynchronized
  have EN : ∀ (H : Heap) (locs : List Loc) (ls : Array Slot), fw_P E o d μ H → va_S (fw_A E) s.heap H locs → lv_has ls 3 [(0, .ref (fw_ad E 0 10)), (1, .ref (fw_ad E 0 28))] → W p l e (headSpec (Cond.codeWith yL_lostShare cL_lostShare 3 (some .int) [(0, 8, 11, 124)] :: fw_U) ({ frames := 7, cells := 1, slots := 6, locals := 111 } : Room)).room s m args below meth c H locs 0 0 (MQ below (fw_Q E o' d' (some (.int r)) μ') args s 1 6 (fw_A E)) (F0 m 0 ls []) := by
    intro H locs ls hP hS hl
    unfold f_L_lostShare at h
    refine lv_aload_n hx hb dL_lostShare_0 rfl (lv_at hl 1 rfl) ?_
    refine lv_iconst (v := (0 : Int32)) hx hb dL_lostShare_1 (by decide) ?_
    refine lv_aload_n hx hb dL_lostShare_2 rfl (lv_at hl 0 rfl) ?_
    obtain ⟨μ1, r1, k1, hc1, h⟩ := fw_b3_e h
    refine fw_xret (vx_runV (As := []) (rest := [.int (0 : Int32), .ref (fw_ad E 0 28)]) ⟨hx, hb, hml, hown, hU⟩ (k_X9_lostShare l hst hE hc1) (cwV 0 hU (fw_gV m_904 m_905 m_906 m_1 m_907) rfl rfl rfl (by decide +kernel) ⟨(Nat.le_of_ble_eq_true rfl), (Nat.le_of_ble_eq_true rfl)⟩) ⟨fw_blind, fw_recv hK hP (fw_V0 (f := 10) (by decide) (by decide)) rfl rfl, fun U hU9 hW9 => ⟨rfl, fw_pre hK hP hSt hS U hU9 hW9⟩⟩ rfl rfl hl.1 rfl (lv_room (Nat.le_of_ble_eq_true rfl)) dL_lostShare_3 ⟨(Nat.le_of_ble_eq_true rfl), (Nat.le_of_ble_eq_true rfl)⟩) hS (fun hk1 H locs hP hS => ?_) (fun hk1 H locs q ce hP hS hce hcv hcl => ?_)
    · rw [if_pos hk1] at h
      obtain ⟨g2, h⟩ := fw_g_e h
      refine lv_f2d hx hb dL_lostShare_6 (fw_f64_e g2) ?_
      refine fw_dast hx hb hK hP hE hS dL_lostShare_7 (fun H locs hP hS => ?_)
      refine lv_goto (tgt := 14) hx hb dL_lostShare_8 (by decide) ?_
      refine lv_iconst (v := (0 : Int32)) hx hb dL_lostShare_14 (by decide) ?_
      refine W.widen (k := 1) (n := 6) (Nat.le_of_ble_eq_true rfl) (Nat.le_of_ble_eq_true rfl) ?_
      exact W.iret (v := (0 : Int32)) hx hb hr (fw_el h hP hS) hS.2.2 dL_lostShare_15
    · rw [if_neg hk1] at h
      by_cases e1_0 : k1 = 6
      · rw [if_pos e1_0] at h
        subst e1_0
        refine vx_catch (E := "java/lang/ArithmeticException") hown [] ⟨0, 8, 11, 124⟩ [] htab (fun _ h9 => absurd h9 List.not_mem_nil) (by decide) (by decide) (hU (Cond.classLink RL 124 "java/lang/ArithmeticException") m_880) (va_Nw.use rfl (hSt.1.2.1 _ (by decide +kernel))) hce hcv hcl ?_
        refine lv_astore_n (lv' := [(2, .ref q), (0, .ref (fw_ad E 0 10)), (1, .ref (fw_ad E 0 28))]) hx hb dL_lostShare_11 rfl hl (by decide) rfl (fun ls hl => ?_)
        refine lv_iconst (v := (1 : Int32)) hx hb dL_lostShare_12 (by decide) ?_
        refine W.widen (k := 1) (n := 6) (Nat.le_of_ble_eq_true rfl) (Nat.le_of_ble_eq_true rfl) ?_
        exact W.iret (v := (1 : Int32)) hx hb hr (fw_el h hP hS) hS.2.2 dL_lostShare_13
      · rw [if_neg e1_0] at h
        cases h
  subst ha
  have hl := lv_entry ([.ref (fw_ad E 0 10), .ref (fw_ad E 0 28)]) (n := 3) (Nat.le_of_ble_eq_true rfl)
  rw [lg_entry_eq]
  generalize (lg_sl ([.ref (fw_ad E 0 10), .ref (fw_ad E 0 28)]) ++ List.replicate (3 - (lg_sl ([.ref (fw_ad E 0 10), .ref (fw_ad E 0 28)])).length) Slot.unset).toArray = ls at hl ⊢
  exact EN s.heap [] ls hP va_S.rf hl
set_option maxHeartbeats 4000000 in
set_option maxRecDepth 100000 in
theorem k_L_feed (l : Launch) (hst : l.stackTraces = false) {E : fw_E} {o o' : Int64} {d d' : UInt64} (hE : fw_ok E) {μ μ' : fw_M} (x1 : Int32) {r : Int32} (h : f_L_feed μ o d x1 = some (μ', o', d', r)) : Met l yL_feed (Cond.codeWith yL_feed cL_feed 4 (some .int) [(0, 9, 12, 17)] :: fw_U) ({ frames := 7, cells := 1, slots := 6, locals := 111 } : Room) (va_Pc [.ref (fw_ad E 0 10), .int x1, .ref (fw_ad E 0 27)] (fun U => fw_Pre E o d μ U ∧ fw_S2 U)) (fw_Q E o' d' (some (.int r)) μ') 1 6 (fw_A E) := by
  refine va_MetW (cc := cL_feed) (maxL := 4) (ret := some .int) (by decide) rfl ?_
  intro p e s m args below meth c s₁ B hml hv
  obtain ⟨ha, ⟨hK, hP, hSt⟩, hN2⟩ := hv
  have hx := B.exec
  have hb := B.bytes
  have hr := B.returns
  have hts := atoms_spec (ws := (Cond.codeWith yL_feed cL_feed 4 (some .int) [(0, 9, 12, 17)] :: fw_U)) B.pre
  have hU : ∀ w ∈ fw_U, w.before args s = true := fun w hw => hts w (List.mem_cons_of_mem _ hw)
  have htab : c.exceptionTable.toList = [⟨0, 9, 12, 17⟩] := vx_table (x := yL_feed) B (hts _ List.mem_cons_self)
  have hown : s.vm.findClass RL = some m.cls := findClass_of_methodNamed B.named
  have hlocks := B.notSynchronized
  have EN : ∀ (H : Heap) (locs : List Loc) (ls : Array Slot), fw_P E o d μ H → va_S (fw_A E) s.heap H locs → lv_has ls 4 [(0, .ref (fw_ad E 0 10)), (1, .int x1), (2, .ref (fw_ad E 0 27))] → W p l e (headSpec (Cond.codeWith yL_feed cL_feed 4 (some .int) [(0, 9, 12, 17)] :: fw_U) ({ frames := 7, cells := 1, slots := 6, locals := 111 } : Room)).room s m args below meth c H locs 0 0 (MQ below (fw_Q E o' d' (some (.int r)) μ') args s 1 6 (fw_A E)) (F0 m 0 ls []) := by
    intro H locs ls hP hS hl
    unfold f_L_feed at h
    refine lv_aload_n hx hb dL_feed_0 rfl (lv_at hl 2 rfl) ?_
    refine lv_iconst (v := (0 : Int32)) hx hb dL_feed_1 (by decide) ?_
    refine lv_aload_n hx hb dL_feed_2 rfl (lv_at hl 0 rfl) ?_
    refine lv_iload_n hx hb dL_feed_3 rfl (lv_at hl 1 rfl) ?_
    obtain ⟨μ1, r1, k1, hc1, h⟩ := fw_b3_e h
    refine fw_xret (vx_runV (As := [.int x1]) (rest := [.int (0 : Int32), .ref (fw_ad E 0 27)]) ⟨hx, hb, hml, hown, hU⟩ (k_X9_feed l hst hE x1 hc1) (cwV 1 hU (fw_gV m_913 m_914 m_915 m_1 m_916) rfl rfl rfl (by decide +kernel) ⟨(Nat.le_of_ble_eq_true rfl), (Nat.le_of_ble_eq_true rfl)⟩) ⟨fw_blind, fw_recv hK hP (fw_V0 (f := 10) (by decide) (by decide)) rfl rfl, fun U hU9 hW9 => ⟨rfl, fw_pre hK hP hSt hS U hU9 hW9⟩⟩ rfl rfl hl.1 rfl (lv_room (Nat.le_of_ble_eq_true rfl)) dL_feed_4 ⟨(Nat.le_of_ble_eq_true rfl), (Nat.le_of_ble_eq_true rfl)⟩) hS (fun hk1 H locs hP hS => ?_) (fun hk1 H locs q ce hP hS hce hcv hcl => ?_)
    · rw [if_pos hk1] at h
      refine lv_i2l (v := r1.toInt64) hx hb dL_feed_7 rfl ?_
      refine fw_last hx hb hK hP hE hS dL_feed_8 (fun H locs hP hS => ?_)
      refine lv_goto (tgt := 15) hx hb dL_feed_9 (by decide) ?_
      refine lv_iconst (v := (0 : Int32)) hx hb dL_feed_15 (by decide) ?_
      refine W.widen (k := 1) (n := 6) (Nat.le_of_ble_eq_true rfl) (Nat.le_of_ble_eq_true rfl) ?_
      exact W.iret (v := (0 : Int32)) hx hb hr (fw_el h hP hS) hS.2.2 dL_feed_16
    · rw [if_neg hk1] at h
      by_cases e1_0 : k1 = 3
      · rw [if_pos e1_0] at h
        subst e1_0
        refine vx_catch (E := "java/lang/IllegalStateException") hown [] ⟨0, 9, 12, 17⟩ [] htab (fun _ h9 => absurd h9 List.not_mem_nil) (by decide) (by decide) (hU (Cond.classLink RL 17 "java/lang/IllegalStateException") m_419) (va_Nw.use rfl (hSt.1.2.1 _ (by decide +kernel))) hce hcv hcl ?_
        refine lv_astore_n (lv' := [(3, .ref q), (0, .ref (fw_ad E 0 10)), (1, .int x1), (2, .ref (fw_ad E 0 27))]) hx hb dL_feed_12 rfl hl (by decide) rfl (fun ls hl => ?_)
        refine lv_iconst (v := (1 : Int32)) hx hb dL_feed_13 (by decide) ?_
        refine W.widen (k := 1) (n := 6) (Nat.le_of_ble_eq_true rfl) (Nat.le_of_ble_eq_true rfl) ?_
        exact W.iret (v := (1 : Int32)) hx hb hr (fw_el h hP hS) hS.2.2 dL_feed_14
      · rw [if_neg e1_0] at h
        cases h
  subst ha
  have hl := lv_entry ([.ref (fw_ad E 0 10), .int x1, .ref (fw_ad E 0 27)]) (n := 4) (Nat.le_of_ble_eq_true rfl)
  rw [lg_entry_eq]
  generalize (lg_sl ([.ref (fw_ad E 0 10), .int x1, .ref (fw_ad E 0 27)]) ++ List.replicate (4 - (lg_sl ([.ref (fw_ad E 0 10), .int x1, .ref (fw_ad E 0 27)])).length) Slot.unset).toArray = ls at hl ⊢
  exact EN s.heap [] ls hP va_S.rf hl
set_option maxHeartbeats 4000000 in
set_option maxRecDepth 100000 in
theorem k_L_runCommands (l : Launch) (hst : l.stackTraces = false) {E : fw_E} {o o' : Int64} {d d' : UInt64} (hE : fw_ok E) {μ μ' : fw_M} {r : Int32} (h : f_L_runCommands μ o d = some (μ', o', d', r)) : Met l yL_runCommands (Cond.codeWith yL_runCommands cL_runCommands 3 (some .int) [(0, 8, 11, 15), (0, 8, 14, 23)] :: fw_U) ({ frames := 9, cells := 1, slots := 6, locals := 196 } : Room) (va_Pc [.ref (fw_ad E 0 10), .ref (fw_ad E 0 27)] (fun U => fw_Pre E o d μ U ∧ fw_S2 U)) (fw_Q E o' d' (some (.int r)) μ') 1 6 (fw_A E) := by
  refine va_MetW (cc := cL_runCommands) (maxL := 3) (ret := some .int) (by decide) rfl ?_
  intro p e s m args below meth c s₁ B hml hv
  obtain ⟨ha, ⟨hK, hP, hSt⟩, hN2⟩ := hv
  have hx := B.exec
  have hb := B.bytes
  have hr := B.returns
  have hts := atoms_spec (ws := (Cond.codeWith yL_runCommands cL_runCommands 3 (some .int) [(0, 8, 11, 15), (0, 8, 14, 23)] :: fw_U)) B.pre
  have hU : ∀ w ∈ fw_U, w.before args s = true := fun w hw => hts w (List.mem_cons_of_mem _ hw)
  have htab : c.exceptionTable.toList = [⟨0, 8, 11, 15⟩, ⟨0, 8, 14, 23⟩] := vx_table (x := yL_runCommands) B (hts _ List.mem_cons_self)
  have hown : s.vm.findClass RL = some m.cls := findClass_of_methodNamed B.named
  have hlocks := B.notSynchronized
  have EN : ∀ (H : Heap) (locs : List Loc) (ls : Array Slot), fw_P E o d μ H → va_S (fw_A E) s.heap H locs → lv_has ls 3 [(0, .ref (fw_ad E 0 10)), (1, .ref (fw_ad E 0 27))] → W p l e (headSpec (Cond.codeWith yL_runCommands cL_runCommands 3 (some .int) [(0, 8, 11, 15), (0, 8, 14, 23)] :: fw_U) ({ frames := 9, cells := 1, slots := 6, locals := 196 } : Room)).room s m args below meth c H locs 0 0 (MQ below (fw_Q E o' d' (some (.int r)) μ') args s 1 6 (fw_A E)) (F0 m 0 ls []) := by
    intro H locs ls hP hS hl
    unfold f_L_runCommands at h
    refine lv_aload_n hx hb dL_runCommands_0 rfl (lv_at hl 1 rfl) ?_
    refine lv_iconst (v := (0 : Int32)) hx hb dL_runCommands_1 (by decide) ?_
    refine lv_aload_n hx hb dL_runCommands_2 rfl (lv_at hl 0 rfl) ?_
    obtain ⟨μ1, r1, k1, hc1, h⟩ := fw_b3_e h
    refine fw_xret (vx_runV (As := []) (rest := [.int (0 : Int32), .ref (fw_ad E 0 27)]) ⟨hx, hb, hml, hown, hU⟩ (k_X9_runCommands l hst hE hc1) (cwV 0 hU (fw_gV m_925 m_926 m_927 m_1 m_928) rfl rfl rfl (by decide +kernel) ⟨(Nat.le_of_ble_eq_true rfl), (Nat.le_of_ble_eq_true rfl)⟩) ⟨fw_blind, fw_recv hK hP (fw_V0 (f := 10) (by decide) (by decide)) rfl rfl, fun U hU9 hW9 => ⟨rfl, fw_pre hK hP hSt hS U hU9 hW9⟩⟩ rfl rfl hl.1 rfl (lv_room (Nat.le_of_ble_eq_true rfl)) dL_runCommands_3 ⟨(Nat.le_of_ble_eq_true rfl), (Nat.le_of_ble_eq_true rfl)⟩) hS (fun hk1 H locs hP hS => ?_) (fun hk1 H locs q ce hP hS hce hcv hcl => ?_)
    · rw [if_pos hk1] at h
      refine lv_i2l (v := r1.toInt64) hx hb dL_runCommands_6 rfl ?_
      refine fw_last hx hb hK hP hE hS dL_runCommands_7 (fun H locs hP hS => ?_)
      refine lv_goto (tgt := 17) hx hb dL_runCommands_8 (by decide) ?_
      refine lv_iconst (v := (0 : Int32)) hx hb dL_runCommands_17 (by decide) ?_
      refine W.widen (k := 1) (n := 6) (Nat.le_of_ble_eq_true rfl) (Nat.le_of_ble_eq_true rfl) ?_
      exact W.iret (v := (0 : Int32)) hx hb hr (fw_el h hP hS) hS.2.2 dL_runCommands_18
    · rw [if_neg hk1] at h
      by_cases e1_0 : k1 = 2
      · rw [if_pos e1_0] at h
        subst e1_0
        refine vx_catch (E := "java/lang/IllegalArgumentException") hown [] ⟨0, 8, 11, 15⟩ [⟨0, 8, 14, 23⟩] htab (fun _ h9 => absurd h9 List.not_mem_nil) (by decide) (by decide) (hU (Cond.classLink RL 15 "java/lang/IllegalArgumentException") m_418) (va_Nw.use rfl (hSt.1.2.1 _ (by decide +kernel))) hce hcv hcl ?_
        refine lv_astore_n (lv' := [(2, .ref q), (0, .ref (fw_ad E 0 10)), (1, .ref (fw_ad E 0 27))]) hx hb dL_runCommands_11 rfl hl (by decide) rfl (fun ls hl => ?_)
        refine lv_iconst (v := (1 : Int32)) hx hb dL_runCommands_12 (by decide) ?_
        refine W.widen (k := 1) (n := 6) (Nat.le_of_ble_eq_true rfl) (Nat.le_of_ble_eq_true rfl) ?_
        exact W.iret (v := (1 : Int32)) hx hb hr (fw_el h hP hS) hS.2.2 dL_runCommands_13
      · rw [if_neg e1_0] at h
        by_cases e1_1 : k1 = 4
        · rw [if_pos e1_1] at h
          subst e1_1
          refine vx_catch (E := "java/lang/UnsupportedOperationException") hown [⟨0, 8, 11, 15⟩] ⟨0, 8, 14, 23⟩ [] htab (fun z h9 => by rw [List.mem_singleton.mp h9]; exact Or.inr ⟨by decide, "java/lang/IllegalArgumentException", (hU (Cond.classLink RL 15 "java/lang/IllegalArgumentException") m_418), hN2 _ (List.mem_of_getElem? (i := 7) rfl)⟩) (by decide) (by decide) (hU (Cond.classLink RL 23 "java/lang/UnsupportedOperationException") m_535) (va_Nw.use rfl (hSt.1.2.1 _ (by decide +kernel))) hce hcv hcl ?_
          refine lv_astore_n (lv' := [(2, .ref q), (0, .ref (fw_ad E 0 10)), (1, .ref (fw_ad E 0 27))]) hx hb dL_runCommands_14 rfl hl (by decide) rfl (fun ls hl => ?_)
          refine lv_iconst (v := (2 : Int32)) hx hb dL_runCommands_15 (by decide) ?_
          refine W.widen (k := 1) (n := 6) (Nat.le_of_ble_eq_true rfl) (Nat.le_of_ble_eq_true rfl) ?_
          exact W.iret (v := (2 : Int32)) hx hb hr (fw_el h hP hS) hS.2.2 dL_runCommands_16
        · rw [if_neg e1_1] at h
          cases h
  subst ha
  have hl := lv_entry ([.ref (fw_ad E 0 10), .ref (fw_ad E 0 27)]) (n := 3) (Nat.le_of_ble_eq_true rfl)
  rw [lg_entry_eq]
  generalize (lg_sl ([.ref (fw_ad E 0 10), .ref (fw_ad E 0 27)]) ++ List.replicate (3 - (lg_sl ([.ref (fw_ad E 0 10), .ref (fw_ad E 0 27)])).length) Slot.unset).toArray = ls at hl ⊢
  exact EN s.heap [] ls hP va_S.rf hl
set_option maxHeartbeats 4000000 in
set_option maxRecDepth 100000 in
theorem k_L_errorPosition (l : Launch) (hst : l.stackTraces = false) {E : fw_E} {o o' : Int64} {d d' : UInt64} (hE : fw_ok E) {μ μ' : fw_M} {r : Int32} (h : f_L_errorPosition μ o d = some (μ', o', d', r)) : Met l yL_errorPosition (Cond.codeWith yL_errorPosition cL_errorPosition 3 (some .int) [(0, 8, 11, 62)] :: fw_U) ({ frames := 7, cells := 1, slots := 6, locals := 110 } : Room) (va_Pc [.ref (fw_ad E 0 10), .ref (fw_ad E 0 27)] (fun U => fw_Pre E o d μ U ∧ fw_S2 U)) (fw_Q E o' d' (some (.int r)) μ') 1 6 (fw_A E) := by
  refine va_MetW (cc := cL_errorPosition) (maxL := 3) (ret := some .int) (by decide) rfl ?_
  intro p e s m args below meth c s₁ B hml hv
  obtain ⟨ha, ⟨hK, hP, hSt⟩, hN2⟩ := hv
  have hx := B.exec
  have hb := B.bytes
  have hr := B.returns
  have hts := atoms_spec (ws := (Cond.codeWith yL_errorPosition cL_errorPosition 3 (some .int) [(0, 8, 11, 62)] :: fw_U)) B.pre
  have hU : ∀ w ∈ fw_U, w.before args s = true := fun w hw => hts w (List.mem_cons_of_mem _ hw)
  have htab : c.exceptionTable.toList = [⟨0, 8, 11, 62⟩] := vx_table (x := yL_errorPosition) B (hts _ List.mem_cons_self)
  have hown : s.vm.findClass RL = some m.cls := findClass_of_methodNamed B.named
  have hlocks := B.notSynchronized
  have EN : ∀ (H : Heap) (locs : List Loc) (ls : Array Slot), fw_P E o d μ H → va_S (fw_A E) s.heap H locs → lv_has ls 3 [(0, .ref (fw_ad E 0 10)), (1, .ref (fw_ad E 0 27))] → W p l e (headSpec (Cond.codeWith yL_errorPosition cL_errorPosition 3 (some .int) [(0, 8, 11, 62)] :: fw_U) ({ frames := 7, cells := 1, slots := 6, locals := 110 } : Room)).room s m args below meth c H locs 0 0 (MQ below (fw_Q E o' d' (some (.int r)) μ') args s 1 6 (fw_A E)) (F0 m 0 ls []) := by
    intro H locs ls hP hS hl
    unfold f_L_errorPosition at h
    refine lv_aload_n hx hb dL_errorPosition_0 rfl (lv_at hl 1 rfl) ?_
    refine lv_iconst (v := (0 : Int32)) hx hb dL_errorPosition_1 (by decide) ?_
    refine lv_aload_n hx hb dL_errorPosition_2 rfl (lv_at hl 0 rfl) ?_
    obtain ⟨μ1, r1, k1, hc1, h⟩ := fw_b3_e h
    refine fw_xret (vx_runV (As := []) (rest := [.int (0 : Int32), .ref (fw_ad E 0 27)]) ⟨hx, hb, hml, hown, hU⟩ (k_X9_errorPosition l hst hE hc1) (cwV 0 hU (fw_gV m_1046 m_1047 m_1048 m_1 m_1049) rfl rfl rfl (by decide +kernel) ⟨(Nat.le_of_ble_eq_true rfl), (Nat.le_of_ble_eq_true rfl)⟩) ⟨fw_blind, fw_recv hK hP (fw_V0 (f := 10) (by decide) (by decide)) rfl rfl, fun U hU9 hW9 => ⟨rfl, fw_pre hK hP hSt hS U hU9 hW9⟩⟩ rfl rfl hl.1 rfl (lv_room (Nat.le_of_ble_eq_true rfl)) dL_errorPosition_3 ⟨(Nat.le_of_ble_eq_true rfl), (Nat.le_of_ble_eq_true rfl)⟩) hS (fun hk1 H locs hP hS => ?_) (fun hk1 H locs q ce hP hS hce hcv hcl => ?_)
    · rw [if_pos hk1] at h
      refine lv_i2l (v := r1.toInt64) hx hb dL_errorPosition_6 rfl ?_
      refine fw_last hx hb hK hP hE hS dL_errorPosition_7 (fun H locs hP hS => ?_)
      refine lv_goto (tgt := 14) hx hb dL_errorPosition_8 (by decide) ?_
      refine lv_iconst (v := (0 : Int32)) hx hb dL_errorPosition_14 (by decide) ?_
      refine W.widen (k := 1) (n := 6) (Nat.le_of_ble_eq_true rfl) (Nat.le_of_ble_eq_true rfl) ?_
      exact W.iret (v := (0 : Int32)) hx hb hr (fw_el h hP hS) hS.2.2 dL_errorPosition_15
    · rw [if_neg hk1] at h
      by_cases e1_0 : k1 = 5
      · rw [if_pos e1_0] at h
        subst e1_0
        refine vx_catch (E := "java/util/NoSuchElementException") hown [] ⟨0, 8, 11, 62⟩ [] htab (fun _ h9 => absurd h9 List.not_mem_nil) (by decide) (by decide) (hU (Cond.classLink RL 62 "java/util/NoSuchElementException") m_680) (va_Nw.use rfl (hSt.1.2.1 _ (by decide +kernel))) hce hcv hcl ?_
        refine lv_astore_n (lv' := [(2, .ref q), (0, .ref (fw_ad E 0 10)), (1, .ref (fw_ad E 0 27))]) hx hb dL_errorPosition_11 rfl hl (by decide) rfl (fun ls hl => ?_)
        refine lv_iconst (v := (1 : Int32)) hx hb dL_errorPosition_12 (by decide) ?_
        refine W.widen (k := 1) (n := 6) (Nat.le_of_ble_eq_true rfl) (Nat.le_of_ble_eq_true rfl) ?_
        exact W.iret (v := (1 : Int32)) hx hb hr (fw_el h hP hS) hS.2.2 dL_errorPosition_13
      · rw [if_neg e1_0] at h
        cases h
  subst ha
  have hl := lv_entry ([.ref (fw_ad E 0 10), .ref (fw_ad E 0 27)]) (n := 3) (Nat.le_of_ble_eq_true rfl)
  rw [lg_entry_eq]
  generalize (lg_sl ([.ref (fw_ad E 0 10), .ref (fw_ad E 0 27)]) ++ List.replicate (3 - (lg_sl ([.ref (fw_ad E 0 10), .ref (fw_ad E 0 27)])).length) Slot.unset).toArray = ls at hl ⊢
  exact EN s.heap [] ls hP va_S.rf hl
set_option maxHeartbeats 4000000 in
set_option maxRecDepth 100000 in
theorem k_L_failedCommand (l : Launch) (hst : l.stackTraces = false) {E : fw_E} {o o' : Int64} {d d' : UInt64} (hE : fw_ok E) {μ μ' : fw_M} {r : Int32} (h : f_L_failedCommand μ o d = some (μ', o', d', r)) : Met l yL_failedCommand (Cond.codeWith yL_failedCommand cL_failedCommand 3 (some .int) [(0, 8, 11, 62)] :: fw_U) ({ frames := 7, cells := 1, slots := 6, locals := 110 } : Room) (va_Pc [.ref (fw_ad E 0 10), .ref (fw_ad E 0 27)] (fun U => fw_Pre E o d μ U ∧ fw_S2 U)) (fw_Q E o' d' (some (.int r)) μ') 1 6 (fw_A E) := by
  refine va_MetW (cc := cL_failedCommand) (maxL := 3) (ret := some .int) (by decide) rfl ?_
  intro p e s m args below meth c s₁ B hml hv
  obtain ⟨ha, ⟨hK, hP, hSt⟩, hN2⟩ := hv
  have hx := B.exec
  have hb := B.bytes
  have hr := B.returns
  have hts := atoms_spec (ws := (Cond.codeWith yL_failedCommand cL_failedCommand 3 (some .int) [(0, 8, 11, 62)] :: fw_U)) B.pre
  have hU : ∀ w ∈ fw_U, w.before args s = true := fun w hw => hts w (List.mem_cons_of_mem _ hw)
  have htab : c.exceptionTable.toList = [⟨0, 8, 11, 62⟩] := vx_table (x := yL_failedCommand) B (hts _ List.mem_cons_self)
  have hown : s.vm.findClass RL = some m.cls := findClass_of_methodNamed B.named
  have hlocks := B.notSynchronized
  have EN : ∀ (H : Heap) (locs : List Loc) (ls : Array Slot), fw_P E o d μ H → va_S (fw_A E) s.heap H locs → lv_has ls 3 [(0, .ref (fw_ad E 0 10)), (1, .ref (fw_ad E 0 27))] → W p l e (headSpec (Cond.codeWith yL_failedCommand cL_failedCommand 3 (some .int) [(0, 8, 11, 62)] :: fw_U) ({ frames := 7, cells := 1, slots := 6, locals := 110 } : Room)).room s m args below meth c H locs 0 0 (MQ below (fw_Q E o' d' (some (.int r)) μ') args s 1 6 (fw_A E)) (F0 m 0 ls []) := by
    intro H locs ls hP hS hl
    unfold f_L_failedCommand at h
    refine lv_aload_n hx hb dL_failedCommand_0 rfl (lv_at hl 1 rfl) ?_
    refine lv_iconst (v := (0 : Int32)) hx hb dL_failedCommand_1 (by decide) ?_
    refine lv_aload_n hx hb dL_failedCommand_2 rfl (lv_at hl 0 rfl) ?_
    obtain ⟨μ1, r1, k1, hc1, h⟩ := fw_b3_e h
    refine fw_xret (vx_runV (As := []) (rest := [.int (0 : Int32), .ref (fw_ad E 0 27)]) ⟨hx, hb, hml, hown, hU⟩ (k_X9_failedCommand l hst hE hc1) (cwV 0 hU (fw_gV m_1054 m_1055 m_1056 m_1 m_1057) rfl rfl rfl (by decide +kernel) ⟨(Nat.le_of_ble_eq_true rfl), (Nat.le_of_ble_eq_true rfl)⟩) ⟨fw_blind, fw_recv hK hP (fw_V0 (f := 10) (by decide) (by decide)) rfl rfl, fun U hU9 hW9 => ⟨rfl, fw_pre hK hP hSt hS U hU9 hW9⟩⟩ rfl rfl hl.1 rfl (lv_room (Nat.le_of_ble_eq_true rfl)) dL_failedCommand_3 ⟨(Nat.le_of_ble_eq_true rfl), (Nat.le_of_ble_eq_true rfl)⟩) hS (fun hk1 H locs hP hS => ?_) (fun hk1 H locs q ce hP hS hce hcv hcl => ?_)
    · rw [if_pos hk1] at h
      refine lv_i2l (v := r1.toInt64) hx hb dL_failedCommand_6 rfl ?_
      refine fw_last hx hb hK hP hE hS dL_failedCommand_7 (fun H locs hP hS => ?_)
      refine lv_goto (tgt := 14) hx hb dL_failedCommand_8 (by decide) ?_
      refine lv_iconst (v := (0 : Int32)) hx hb dL_failedCommand_14 (by decide) ?_
      refine W.widen (k := 1) (n := 6) (Nat.le_of_ble_eq_true rfl) (Nat.le_of_ble_eq_true rfl) ?_
      exact W.iret (v := (0 : Int32)) hx hb hr (fw_el h hP hS) hS.2.2 dL_failedCommand_15
    · rw [if_neg hk1] at h
      by_cases e1_0 : k1 = 5
      · rw [if_pos e1_0] at h
        subst e1_0
        refine vx_catch (E := "java/util/NoSuchElementException") hown [] ⟨0, 8, 11, 62⟩ [] htab (fun _ h9 => absurd h9 List.not_mem_nil) (by decide) (by decide) (hU (Cond.classLink RL 62 "java/util/NoSuchElementException") m_680) (va_Nw.use rfl (hSt.1.2.1 _ (by decide +kernel))) hce hcv hcl ?_
        refine lv_astore_n (lv' := [(2, .ref q), (0, .ref (fw_ad E 0 10)), (1, .ref (fw_ad E 0 27))]) hx hb dL_failedCommand_11 rfl hl (by decide) rfl (fun ls hl => ?_)
        refine lv_iconst (v := (1 : Int32)) hx hb dL_failedCommand_12 (by decide) ?_
        refine W.widen (k := 1) (n := 6) (Nat.le_of_ble_eq_true rfl) (Nat.le_of_ble_eq_true rfl) ?_
        exact W.iret (v := (1 : Int32)) hx hb hr (fw_el h hP hS) hS.2.2 dL_failedCommand_13
      · rw [if_neg e1_0] at h
        cases h
  subst ha
  have hl := lv_entry ([.ref (fw_ad E 0 10), .ref (fw_ad E 0 27)]) (n := 3) (Nat.le_of_ble_eq_true rfl)
  rw [lg_entry_eq]
  generalize (lg_sl ([.ref (fw_ad E 0 10), .ref (fw_ad E 0 27)]) ++ List.replicate (3 - (lg_sl ([.ref (fw_ad E 0 10), .ref (fw_ad E 0 27)])).length) Slot.unset).toArray = ls at hl ⊢
  exact EN s.heap [] ls hP va_S.rf hl
set_option maxHeartbeats 4000000 in
set_option maxRecDepth 100000 in
theorem k_L_writeBag (l : Launch) (hst : l.stackTraces = false) {E : fw_E} {o o' : Int64} {d d' : UInt64} (hE : fw_ok E) {μ μ' : fw_M} (x1 : Int32) {r : Int32} (h : f_L_writeBag μ o d x1 = some (μ', o', d', r)) : Met l yL_writeBag (Cond.codeWith yL_writeBag cL_writeBag 4 (some .int) [(0, 9, 12, 13)] :: fw_U) ({ frames := 8, cells := 1, slots := 6, locals := 132 } : Room) (va_Pc [.ref (fw_ad E 0 10), .int x1, .ref (fw_ad E 0 27)] (fun U => fw_Pre E o d μ U ∧ fw_S2 U)) (fw_Q E o' d' (some (.int r)) μ') 1 6 (fw_A E) := by
  refine va_MetW (cc := cL_writeBag) (maxL := 4) (ret := some .int) (by decide) rfl ?_
  intro p e s m args below meth c s₁ B hml hv
  obtain ⟨ha, ⟨hK, hP, hSt⟩, hN2⟩ := hv
  have hx := B.exec
  have hb := B.bytes
  have hr := B.returns
  have hts := atoms_spec (ws := (Cond.codeWith yL_writeBag cL_writeBag 4 (some .int) [(0, 9, 12, 13)] :: fw_U)) B.pre
  have hU : ∀ w ∈ fw_U, w.before args s = true := fun w hw => hts w (List.mem_cons_of_mem _ hw)
  have htab : c.exceptionTable.toList = [⟨0, 9, 12, 13⟩] := vx_table (x := yL_writeBag) B (hts _ List.mem_cons_self)
  have hown : s.vm.findClass RL = some m.cls := findClass_of_methodNamed B.named
  have hlocks := B.notSynchronized
  have EN : ∀ (H : Heap) (locs : List Loc) (ls : Array Slot), fw_P E o d μ H → va_S (fw_A E) s.heap H locs → lv_has ls 4 [(0, .ref (fw_ad E 0 10)), (1, .int x1), (2, .ref (fw_ad E 0 27))] → W p l e (headSpec (Cond.codeWith yL_writeBag cL_writeBag 4 (some .int) [(0, 9, 12, 13)] :: fw_U) ({ frames := 8, cells := 1, slots := 6, locals := 132 } : Room)).room s m args below meth c H locs 0 0 (MQ below (fw_Q E o' d' (some (.int r)) μ') args s 1 6 (fw_A E)) (F0 m 0 ls []) := by
    intro H locs ls hP hS hl
    unfold f_L_writeBag at h
    refine lv_aload_n hx hb dL_writeBag_0 rfl (lv_at hl 2 rfl) ?_
    refine lv_iconst (v := (0 : Int32)) hx hb dL_writeBag_1 (by decide) ?_
    refine lv_aload_n hx hb dL_writeBag_2 rfl (lv_at hl 0 rfl) ?_
    refine lv_iload_n hx hb dL_writeBag_3 rfl (lv_at hl 1 rfl) ?_
    obtain ⟨μ1, r1, k1, hc1, h⟩ := fw_b3_e h
    refine fw_xret (vx_runV (As := [.int x1]) (rest := [.int (0 : Int32), .ref (fw_ad E 0 27)]) ⟨hx, hb, hml, hown, hU⟩ (k_X9_writeBag l hst hE x1 hc1) (cwV 1 hU (fw_gV m_1062 m_1063 m_1064 m_1 m_1065) rfl rfl rfl (by decide +kernel) ⟨(Nat.le_of_ble_eq_true rfl), (Nat.le_of_ble_eq_true rfl)⟩) ⟨fw_blind, fw_recv hK hP (fw_V0 (f := 10) (by decide) (by decide)) rfl rfl, fun U hU9 hW9 => ⟨rfl, fw_pre hK hP hSt hS U hU9 hW9⟩⟩ rfl rfl hl.1 rfl (lv_room (Nat.le_of_ble_eq_true rfl)) dL_writeBag_4 ⟨(Nat.le_of_ble_eq_true rfl), (Nat.le_of_ble_eq_true rfl)⟩) hS (fun hk1 H locs hP hS => ?_) (fun hk1 H locs q ce hP hS hce hcv hcl => ?_)
    · rw [if_pos hk1] at h
      refine lv_i2l (v := r1.toInt64) hx hb dL_writeBag_7 rfl ?_
      refine fw_last hx hb hK hP hE hS dL_writeBag_8 (fun H locs hP hS => ?_)
      refine lv_goto (tgt := 15) hx hb dL_writeBag_9 (by decide) ?_
      refine lv_iconst (v := (0 : Int32)) hx hb dL_writeBag_15 (by decide) ?_
      refine W.widen (k := 1) (n := 6) (Nat.le_of_ble_eq_true rfl) (Nat.le_of_ble_eq_true rfl) ?_
      exact W.iret (v := (0 : Int32)) hx hb hr (fw_el h hP hS) hS.2.2 dL_writeBag_16
    · rw [if_neg hk1] at h
      by_cases e1_0 : k1 = 1
      · rw [if_pos e1_0] at h
        subst e1_0
        refine vx_catch (E := "java/lang/IndexOutOfBoundsException") hown [] ⟨0, 9, 12, 13⟩ [] htab (fun _ h9 => absurd h9 List.not_mem_nil) (by decide) (by decide) (hU (Cond.classLink RL 13 "java/lang/IndexOutOfBoundsException") m_338) (va_Nw.use rfl (hSt.1.2.1 _ (by decide +kernel))) hce hcv hcl ?_
        refine lv_astore_n (lv' := [(3, .ref q), (0, .ref (fw_ad E 0 10)), (1, .int x1), (2, .ref (fw_ad E 0 27))]) hx hb dL_writeBag_12 rfl hl (by decide) rfl (fun ls hl => ?_)
        refine lv_iconst (v := (1 : Int32)) hx hb dL_writeBag_13 (by decide) ?_
        refine W.widen (k := 1) (n := 6) (Nat.le_of_ble_eq_true rfl) (Nat.le_of_ble_eq_true rfl) ?_
        exact W.iret (v := (1 : Int32)) hx hb hr (fw_el h hP hS) hS.2.2 dL_writeBag_14
      · rw [if_neg e1_0] at h
        cases h
  subst ha
  have hl := lv_entry ([.ref (fw_ad E 0 10), .int x1, .ref (fw_ad E 0 27)]) (n := 4) (Nat.le_of_ble_eq_true rfl)
  rw [lg_entry_eq]
  generalize (lg_sl ([.ref (fw_ad E 0 10), .int x1, .ref (fw_ad E 0 27)]) ++ List.replicate (4 - (lg_sl ([.ref (fw_ad E 0 10), .int x1, .ref (fw_ad E 0 27)])).length) Slot.unset).toArray = ls at hl ⊢
  exact EN s.heap [] ls hP va_S.rf hl
set_option maxHeartbeats 4000000 in
set_option maxRecDepth 100000 in
theorem k_L_outputChar (l : Launch) (hst : l.stackTraces = false) {E : fw_E} {o o' : Int64} {d d' : UInt64} (hE : fw_ok E) {μ μ' : fw_M} (x1 : Int32) {r : Int32} (h : f_L_outputChar μ o d x1 = some (μ', o', d', r)) : Met l yL_outputChar (Cond.codeWith yL_outputChar cL_outputChar 4 (some .int) [(0, 9, 12, 13)] :: fw_U) ({ frames := 7, cells := 1, slots := 6, locals := 111 } : Room) (va_Pc [.ref (fw_ad E 0 10), .int x1, .ref (fw_ad E 0 27)] (fun U => fw_Pre E o d μ U ∧ fw_S2 U)) (fw_Q E o' d' (some (.int r)) μ') 1 6 (fw_A E) := by
  refine va_MetW (cc := cL_outputChar) (maxL := 4) (ret := some .int) (by decide) rfl ?_
  intro p e s m args below meth c s₁ B hml hv
  obtain ⟨ha, ⟨hK, hP, hSt⟩, hN2⟩ := hv
  have hx := B.exec
  have hb := B.bytes
  have hr := B.returns
  have hts := atoms_spec (ws := (Cond.codeWith yL_outputChar cL_outputChar 4 (some .int) [(0, 9, 12, 13)] :: fw_U)) B.pre
  have hU : ∀ w ∈ fw_U, w.before args s = true := fun w hw => hts w (List.mem_cons_of_mem _ hw)
  have htab : c.exceptionTable.toList = [⟨0, 9, 12, 13⟩] := vx_table (x := yL_outputChar) B (hts _ List.mem_cons_self)
  have hown : s.vm.findClass RL = some m.cls := findClass_of_methodNamed B.named
  have hlocks := B.notSynchronized
  have EN : ∀ (H : Heap) (locs : List Loc) (ls : Array Slot), fw_P E o d μ H → va_S (fw_A E) s.heap H locs → lv_has ls 4 [(0, .ref (fw_ad E 0 10)), (1, .int x1), (2, .ref (fw_ad E 0 27))] → W p l e (headSpec (Cond.codeWith yL_outputChar cL_outputChar 4 (some .int) [(0, 9, 12, 13)] :: fw_U) ({ frames := 7, cells := 1, slots := 6, locals := 111 } : Room)).room s m args below meth c H locs 0 0 (MQ below (fw_Q E o' d' (some (.int r)) μ') args s 1 6 (fw_A E)) (F0 m 0 ls []) := by
    intro H locs ls hP hS hl
    unfold f_L_outputChar at h
    refine lv_aload_n hx hb dL_outputChar_0 rfl (lv_at hl 2 rfl) ?_
    refine lv_iconst (v := (0 : Int32)) hx hb dL_outputChar_1 (by decide) ?_
    refine lv_aload_n hx hb dL_outputChar_2 rfl (lv_at hl 0 rfl) ?_
    refine lv_iload_n hx hb dL_outputChar_3 rfl (lv_at hl 1 rfl) ?_
    obtain ⟨μ1, r1, k1, hc1, h⟩ := fw_b3_e h
    refine fw_xret (vx_runV (As := [.int x1]) (rest := [.int (0 : Int32), .ref (fw_ad E 0 27)]) ⟨hx, hb, hml, hown, hU⟩ (k_X9_outputChar l hst hE x1 hc1) (cwV 1 hU (fw_gV m_1082 m_1083 m_1084 m_1 m_1085) rfl rfl rfl (by decide +kernel) ⟨(Nat.le_of_ble_eq_true rfl), (Nat.le_of_ble_eq_true rfl)⟩) ⟨fw_blind, fw_recv hK hP (fw_V0 (f := 10) (by decide) (by decide)) rfl rfl, fun U hU9 hW9 => ⟨rfl, fw_pre hK hP hSt hS U hU9 hW9⟩⟩ rfl rfl hl.1 rfl (lv_room (Nat.le_of_ble_eq_true rfl)) dL_outputChar_4 ⟨(Nat.le_of_ble_eq_true rfl), (Nat.le_of_ble_eq_true rfl)⟩) hS (fun hk1 H locs hP hS => ?_) (fun hk1 H locs q ce hP hS hce hcv hcl => ?_)
    · rw [if_pos hk1] at h
      refine lv_i2l (v := r1.toInt64) hx hb dL_outputChar_7 rfl ?_
      refine fw_last hx hb hK hP hE hS dL_outputChar_8 (fun H locs hP hS => ?_)
      refine lv_goto (tgt := 15) hx hb dL_outputChar_9 (by decide) ?_
      refine lv_iconst (v := (0 : Int32)) hx hb dL_outputChar_15 (by decide) ?_
      refine W.widen (k := 1) (n := 6) (Nat.le_of_ble_eq_true rfl) (Nat.le_of_ble_eq_true rfl) ?_
      exact W.iret (v := (0 : Int32)) hx hb hr (fw_el h hP hS) hS.2.2 dL_outputChar_16
    · rw [if_neg hk1] at h
      by_cases e1_0 : k1 = 1
      · rw [if_pos e1_0] at h
        subst e1_0
        refine vx_catch (E := "java/lang/IndexOutOfBoundsException") hown [] ⟨0, 9, 12, 13⟩ [] htab (fun _ h9 => absurd h9 List.not_mem_nil) (by decide) (by decide) (hU (Cond.classLink RL 13 "java/lang/IndexOutOfBoundsException") m_338) (va_Nw.use rfl (hSt.1.2.1 _ (by decide +kernel))) hce hcv hcl ?_
        refine lv_astore_n (lv' := [(3, .ref q), (0, .ref (fw_ad E 0 10)), (1, .int x1), (2, .ref (fw_ad E 0 27))]) hx hb dL_outputChar_12 rfl hl (by decide) rfl (fun ls hl => ?_)
        refine lv_iconst (v := (1 : Int32)) hx hb dL_outputChar_13 (by decide) ?_
        refine W.widen (k := 1) (n := 6) (Nat.le_of_ble_eq_true rfl) (Nat.le_of_ble_eq_true rfl) ?_
        exact W.iret (v := (1 : Int32)) hx hb hr (fw_el h hP hS) hS.2.2 dL_outputChar_14
      · rw [if_neg e1_0] at h
        cases h
  subst ha
  have hl := lv_entry ([.ref (fw_ad E 0 10), .int x1, .ref (fw_ad E 0 27)]) (n := 4) (Nat.le_of_ble_eq_true rfl)
  rw [lg_entry_eq]
  generalize (lg_sl ([.ref (fw_ad E 0 10), .int x1, .ref (fw_ad E 0 27)]) ++ List.replicate (4 - (lg_sl ([.ref (fw_ad E 0 10), .int x1, .ref (fw_ad E 0 27)])).length) Slot.unset).toArray = ls at hl ⊢
  exact EN s.heap [] ls hP va_S.rf hl
set_option maxHeartbeats 4000000 in
set_option maxRecDepth 100000 in
theorem k_L_undo (l : Launch) (hst : l.stackTraces = false) {E : fw_E} {o o' : Int64} {d d' : UInt64} (hE : fw_ok E) {μ μ' : fw_M} {r : Int32} (h : f_L_undo μ o d = some (μ', o', d', r)) : Met l yL_undo (Cond.codeWith yL_undo cL_undo 3 (some .int) [(0, 8, 11, 17)] :: fw_U) ({ frames := 7, cells := 1, slots := 6, locals := 110 } : Room) (va_Pc [.ref (fw_ad E 0 10), .ref (fw_ad E 0 27)] (fun U => fw_Pre E o d μ U ∧ fw_S2 U)) (fw_Q E o' d' (some (.int r)) μ') 1 6 (fw_A E) := by
  refine va_MetW (cc := cL_undo) (maxL := 3) (ret := some .int) (by decide) rfl ?_
  intro p e s m args below meth c s₁ B hml hv
  obtain ⟨ha, ⟨hK, hP, hSt⟩, hN2⟩ := hv
  have hx := B.exec
  have hb := B.bytes
  have hr := B.returns
  have hts := atoms_spec (ws := (Cond.codeWith yL_undo cL_undo 3 (some .int) [(0, 8, 11, 17)] :: fw_U)) B.pre
  have hU : ∀ w ∈ fw_U, w.before args s = true := fun w hw => hts w (List.mem_cons_of_mem _ hw)
  have htab : c.exceptionTable.toList = [⟨0, 8, 11, 17⟩] := vx_table (x := yL_undo) B (hts _ List.mem_cons_self)
  have hown : s.vm.findClass RL = some m.cls := findClass_of_methodNamed B.named
  have hlocks := B.notSynchronized
  have EN : ∀ (H : Heap) (locs : List Loc) (ls : Array Slot), fw_P E o d μ H → va_S (fw_A E) s.heap H locs → lv_has ls 3 [(0, .ref (fw_ad E 0 10)), (1, .ref (fw_ad E 0 27))] → W p l e (headSpec (Cond.codeWith yL_undo cL_undo 3 (some .int) [(0, 8, 11, 17)] :: fw_U) ({ frames := 7, cells := 1, slots := 6, locals := 110 } : Room)).room s m args below meth c H locs 0 0 (MQ below (fw_Q E o' d' (some (.int r)) μ') args s 1 6 (fw_A E)) (F0 m 0 ls []) := by
    intro H locs ls hP hS hl
    unfold f_L_undo at h
    refine lv_aload_n hx hb dL_undo_0 rfl (lv_at hl 1 rfl) ?_
    refine lv_iconst (v := (0 : Int32)) hx hb dL_undo_1 (by decide) ?_
    refine lv_aload_n hx hb dL_undo_2 rfl (lv_at hl 0 rfl) ?_
    obtain ⟨μ1, r1, k1, hc1, h⟩ := fw_b3_e h
    refine fw_xret (vx_runV (As := []) (rest := [.int (0 : Int32), .ref (fw_ad E 0 27)]) ⟨hx, hb, hml, hown, hU⟩ (k_X9_undo l hst hE hc1) (cwV 0 hU (fw_gV m_1090 m_1091 m_1092 m_1 m_1093) rfl rfl rfl (by decide +kernel) ⟨(Nat.le_of_ble_eq_true rfl), (Nat.le_of_ble_eq_true rfl)⟩) ⟨fw_blind, fw_recv hK hP (fw_V0 (f := 10) (by decide) (by decide)) rfl rfl, fun U hU9 hW9 => ⟨rfl, fw_pre hK hP hSt hS U hU9 hW9⟩⟩ rfl rfl hl.1 rfl (lv_room (Nat.le_of_ble_eq_true rfl)) dL_undo_3 ⟨(Nat.le_of_ble_eq_true rfl), (Nat.le_of_ble_eq_true rfl)⟩) hS (fun hk1 H locs hP hS => ?_) (fun hk1 H locs q ce hP hS hce hcv hcl => ?_)
    · rw [if_pos hk1] at h
      refine lv_i2l (v := r1.toInt64) hx hb dL_undo_6 rfl ?_
      refine fw_last hx hb hK hP hE hS dL_undo_7 (fun H locs hP hS => ?_)
      refine lv_goto (tgt := 14) hx hb dL_undo_8 (by decide) ?_
      refine lv_iconst (v := (0 : Int32)) hx hb dL_undo_14 (by decide) ?_
      refine W.widen (k := 1) (n := 6) (Nat.le_of_ble_eq_true rfl) (Nat.le_of_ble_eq_true rfl) ?_
      exact W.iret (v := (0 : Int32)) hx hb hr (fw_el h hP hS) hS.2.2 dL_undo_15
    · rw [if_neg hk1] at h
      by_cases e1_0 : k1 = 3
      · rw [if_pos e1_0] at h
        subst e1_0
        refine vx_catch (E := "java/lang/IllegalStateException") hown [] ⟨0, 8, 11, 17⟩ [] htab (fun _ h9 => absurd h9 List.not_mem_nil) (by decide) (by decide) (hU (Cond.classLink RL 17 "java/lang/IllegalStateException") m_419) (va_Nw.use rfl (hSt.1.2.1 _ (by decide +kernel))) hce hcv hcl ?_
        refine lv_astore_n (lv' := [(2, .ref q), (0, .ref (fw_ad E 0 10)), (1, .ref (fw_ad E 0 27))]) hx hb dL_undo_11 rfl hl (by decide) rfl (fun ls hl => ?_)
        refine lv_iconst (v := (1 : Int32)) hx hb dL_undo_12 (by decide) ?_
        refine W.widen (k := 1) (n := 6) (Nat.le_of_ble_eq_true rfl) (Nat.le_of_ble_eq_true rfl) ?_
        exact W.iret (v := (1 : Int32)) hx hb hr (fw_el h hP hS) hS.2.2 dL_undo_13
      · rw [if_neg e1_0] at h
        cases h
  subst ha
  have hl := lv_entry ([.ref (fw_ad E 0 10), .ref (fw_ad E 0 27)]) (n := 3) (Nat.le_of_ble_eq_true rfl)
  rw [lg_entry_eq]
  generalize (lg_sl ([.ref (fw_ad E 0 10), .ref (fw_ad E 0 27)]) ++ List.replicate (3 - (lg_sl ([.ref (fw_ad E 0 10), .ref (fw_ad E 0 27)])).length) Slot.unset).toArray = ls at hl ⊢
  exact EN s.heap [] ls hP va_S.rf hl
set_option maxHeartbeats 4000000 in
set_option maxRecDepth 100000 in
theorem k_L_restore (l : Launch) (hst : l.stackTraces = false) {E : fw_E} {o o' : Int64} {d d' : UInt64} (hE : fw_ok E) {μ μ' : fw_M} {r : Int32} (h : f_L_restore μ o d = some (μ', o', d', r)) : Met l yL_restore (Cond.codeWith yL_restore cL_restore 3 (some .int) [(0, 8, 11, 17)] :: fw_U) ({ frames := 7, cells := 1, slots := 6, locals := 110 } : Room) (va_Pc [.ref (fw_ad E 0 10), .ref (fw_ad E 0 27)] (fun U => fw_Pre E o d μ U ∧ fw_S2 U)) (fw_Q E o' d' (some (.int r)) μ') 1 6 (fw_A E) := by
  refine va_MetW (cc := cL_restore) (maxL := 3) (ret := some .int) (by decide) rfl ?_
  intro p e s m args below meth c s₁ B hml hv
  obtain ⟨ha, ⟨hK, hP, hSt⟩, hN2⟩ := hv
  have hx := B.exec
  have hb := B.bytes
  have hr := B.returns
  have hts := atoms_spec (ws := (Cond.codeWith yL_restore cL_restore 3 (some .int) [(0, 8, 11, 17)] :: fw_U)) B.pre
  have hU : ∀ w ∈ fw_U, w.before args s = true := fun w hw => hts w (List.mem_cons_of_mem _ hw)
  have htab : c.exceptionTable.toList = [⟨0, 8, 11, 17⟩] := vx_table (x := yL_restore) B (hts _ List.mem_cons_self)
  have hown : s.vm.findClass RL = some m.cls := findClass_of_methodNamed B.named
  have hlocks := B.notSynchronized
  have EN : ∀ (H : Heap) (locs : List Loc) (ls : Array Slot), fw_P E o d μ H → va_S (fw_A E) s.heap H locs → lv_has ls 3 [(0, .ref (fw_ad E 0 10)), (1, .ref (fw_ad E 0 27))] → W p l e (headSpec (Cond.codeWith yL_restore cL_restore 3 (some .int) [(0, 8, 11, 17)] :: fw_U) ({ frames := 7, cells := 1, slots := 6, locals := 110 } : Room)).room s m args below meth c H locs 0 0 (MQ below (fw_Q E o' d' (some (.int r)) μ') args s 1 6 (fw_A E)) (F0 m 0 ls []) := by
    intro H locs ls hP hS hl
    unfold f_L_restore at h
    refine lv_aload_n hx hb dL_restore_0 rfl (lv_at hl 1 rfl) ?_
    refine lv_iconst (v := (0 : Int32)) hx hb dL_restore_1 (by decide) ?_
    refine lv_aload_n hx hb dL_restore_2 rfl (lv_at hl 0 rfl) ?_
    obtain ⟨μ1, r1, k1, hc1, h⟩ := fw_b3_e h
    refine fw_xret (vx_runV (As := []) (rest := [.int (0 : Int32), .ref (fw_ad E 0 27)]) ⟨hx, hb, hml, hown, hU⟩ (k_X9_restore l hst hE hc1) (cwV 0 hU (fw_gV m_1102 m_1103 m_1104 m_1 m_1105) rfl rfl rfl (by decide +kernel) ⟨(Nat.le_of_ble_eq_true rfl), (Nat.le_of_ble_eq_true rfl)⟩) ⟨fw_blind, fw_recv hK hP (fw_V0 (f := 10) (by decide) (by decide)) rfl rfl, fun U hU9 hW9 => ⟨rfl, fw_pre hK hP hSt hS U hU9 hW9⟩⟩ rfl rfl hl.1 rfl (lv_room (Nat.le_of_ble_eq_true rfl)) dL_restore_3 ⟨(Nat.le_of_ble_eq_true rfl), (Nat.le_of_ble_eq_true rfl)⟩) hS (fun hk1 H locs hP hS => ?_) (fun hk1 H locs q ce hP hS hce hcv hcl => ?_)
    · rw [if_pos hk1] at h
      refine lv_i2l (v := r1.toInt64) hx hb dL_restore_6 rfl ?_
      refine fw_last hx hb hK hP hE hS dL_restore_7 (fun H locs hP hS => ?_)
      refine lv_goto (tgt := 14) hx hb dL_restore_8 (by decide) ?_
      refine lv_iconst (v := (0 : Int32)) hx hb dL_restore_14 (by decide) ?_
      refine W.widen (k := 1) (n := 6) (Nat.le_of_ble_eq_true rfl) (Nat.le_of_ble_eq_true rfl) ?_
      exact W.iret (v := (0 : Int32)) hx hb hr (fw_el h hP hS) hS.2.2 dL_restore_15
    · rw [if_neg hk1] at h
      by_cases e1_0 : k1 = 3
      · rw [if_pos e1_0] at h
        subst e1_0
        refine vx_catch (E := "java/lang/IllegalStateException") hown [] ⟨0, 8, 11, 17⟩ [] htab (fun _ h9 => absurd h9 List.not_mem_nil) (by decide) (by decide) (hU (Cond.classLink RL 17 "java/lang/IllegalStateException") m_419) (va_Nw.use rfl (hSt.1.2.1 _ (by decide +kernel))) hce hcv hcl ?_
        refine lv_astore_n (lv' := [(2, .ref q), (0, .ref (fw_ad E 0 10)), (1, .ref (fw_ad E 0 27))]) hx hb dL_restore_11 rfl hl (by decide) rfl (fun ls hl => ?_)
        refine lv_iconst (v := (1 : Int32)) hx hb dL_restore_12 (by decide) ?_
        refine W.widen (k := 1) (n := 6) (Nat.le_of_ble_eq_true rfl) (Nat.le_of_ble_eq_true rfl) ?_
        exact W.iret (v := (1 : Int32)) hx hb hr (fw_el h hP hS) hS.2.2 dL_restore_13
      · rw [if_neg e1_0] at h
        cases h
  subst ha
  have hl := lv_entry ([.ref (fw_ad E 0 10), .ref (fw_ad E 0 27)]) (n := 3) (Nat.le_of_ble_eq_true rfl)
  rw [lg_entry_eq]
  generalize (lg_sl ([.ref (fw_ad E 0 10), .ref (fw_ad E 0 27)]) ++ List.replicate (3 - (lg_sl ([.ref (fw_ad E 0 10), .ref (fw_ad E 0 27)])).length) Slot.unset).toArray = ls at hl ⊢
  exact EN s.heap [] ls hP va_S.rf hl
