/-! the law from its entry; laid by wip/whole/lay6.py -/
section FC
variable {args : Array Value} {s : State}
theorem fc_prim {ty : FieldType} (h : (Cond.arrayClass ty).before args s = true) : ∃ cA, ArrOfT s cA ty ∧ s.vm.findClass ("[" ++ ty.toString) = some cA := by
  obtain ⟨c, k, comp, h1, h2, h3⟩ := Cond.arrayClass_spec h
  exact ⟨c, fun n z => ⟨fun k h => (by cases h), k, h2, comp, h3⟩, h1⟩
theorem fc_obj {C : String} (h : va_AO C s) : ∃ cA, ArrOfT s cA (.object C) ∧ va_RA s cA (.object C) := by
  obtain ⟨comp, c, k, h1, h2, h3, h4, h5⟩ := Cond.arrayOver_spec h
  exact ⟨c, fun n z => ⟨fun k h => (by cases h), k, h3, comp, h4⟩, k, comp, h3, h4, h1, h5⟩
theorem fc_in1 : ∀ w ∈ u_ws RJx00060 TJx00060 6, w ∈ fw_U := fw_inUs [380, 382, 384, 386, 388, 390] (by decide +kernel) (by decide +kernel)
theorem fc_U (hts : ∀ w ∈ lw_tbl, w.before args s = true) : ∀ w ∈ fw_U, w.before args s = true := fun w hw => hts w (List.mem_filter.mp hw).1
theorem fc_o4 (hts : ∀ w ∈ lw_tbl, w.before args s = true) : va_AO "LaundryService$Command" s := va_AO.of (fc_t hts (i := 128) (by decide +kernel))
theorem fc_o5 (hts : ∀ w ∈ lw_tbl, w.before args s = true) : va_AO "LaundryService$State" s := va_AO.of (fc_t hts (i := 108) (by decide +kernel))
theorem fc_known (hts : ∀ w ∈ lw_tbl, w.before args s = true) : ∃ (D : va_G) (cy : Nat → ClassId), ∀ (x : Nat → Nat → Nat) (z : Nat), va_K (fw_D (fb_E D x cy z)) vwCl (fw_tys (fb_E D x cy z)) s := by
  have hU := fc_U hts
  obtain ⟨c0, i0, k0⟩ := u_known (C := RJ0) (T := TJ0) (N := 2) (n := 4) hU inUJ0 (fc_t hts (w := .instantiable RJ0 4) (i := 412) (by decide +kernel))
  obtain ⟨c1, i1, k1⟩ := u_known (C := RJx00060) (T := TJx00060) (N := 6) (n := 6) hU fc_in1 (fc_t hts (w := .instantiable RJx00060 6) (i := 339) (by decide +kernel))
  obtain ⟨c2, i2, k2⟩ := u_known (C := RX0) (T := TX0) (N := 4) (n := 4) hU inU0 (fc_t hts (w := .instantiable RX0 4) (i := 129) (by decide +kernel))
  obtain ⟨c3, i3, k3⟩ := u_known (C := RX1) (T := TX1) (N := 5) (n := 5) hU inU1 (fc_t hts (w := .instantiable RX1 5) (i := 122) (by decide +kernel))
  obtain ⟨c4, i4, k4⟩ := u_known (C := RX3) (T := TX3) (N := 3) (n := 3) hU inU3 (fc_t hts (w := .instantiable RX3 3) (i := 102) (by decide +kernel))
  obtain ⟨c5, i5, k5⟩ := u_known (C := RX5) (T := TX5) (N := 2) (n := 2) hU inU5 (fc_t hts (w := .instantiable RX5 2) (i := 179) (by decide +kernel))
  obtain ⟨c6, i6, k6⟩ := u_known (C := RX7) (T := TX7) (N := 10) (n := 10) hU inU7 (fc_t hts (w := .instantiable RX7 10) (i := 40) (by decide +kernel))
  obtain ⟨c7, i7, k7⟩ := u_known (C := RX9) (T := TX9) (N := 9) (n := 9) hU inU9 (fc_t hts (w := .instantiable RX9 9) (i := 32) (by decide +kernel))
  obtain ⟨c8, i8, k8⟩ := u_known (C := RX10) (T := TX10) (N := 20) (n := 20) hU inU10 (fc_t hts (w := .instantiable RX10 20) (i := 1112) (by decide +kernel))
  obtain ⟨a0, p0, q0⟩ := fc_prim (ty := .int) (fc_t hts (i := 98) (by decide +kernel))
  obtain ⟨a1, p1, q1⟩ := fc_prim (ty := .boolean) (fc_t hts (i := 99) (by decide +kernel))
  obtain ⟨a2, p2, q2⟩ := fc_prim (ty := .char) (fc_t hts (i := 157) (by decide +kernel))
  obtain ⟨a3, p3, q3⟩ := fc_prim (ty := .float) (fc_t hts (i := 100) (by decide +kernel))
  obtain ⟨a4, p4, q4⟩ := fc_obj (fc_o4 hts)
  obtain ⟨a5, p5, q5⟩ := fc_obj (fc_o5 hts)
  obtain ⟨a6, p6, q6⟩ := fc_prim (ty := .long) (fc_t hts (i := 1557) (by decide +kernel))
  obtain ⟨a7, p7, q7⟩ := fc_prim (ty := .double) (fc_t hts (i := 1558) (by decide +kernel))
  refine ⟨(fun k => ([c0, c1, c2, c3, c4, c5, c6, c7, c8] : List ClassId).getD k 0, fun k => ([i0, i1, i2, i3, i4, i5, i6, i7, i8] : List (Nat → Nat)).getD k (fun _ => 0)), fun k => ([a0, a1, a2, a3, a4, a5, a6, a7] : List ClassId).getD k 0, fun x z => ⟨fun k q hq => ?_, fun k q hq => ?_⟩⟩
  · match k, hq with
    | 0, hq => cases hq; exact k0
    | 1, hq => cases hq; exact k1
    | 2, hq => cases hq; exact k2
    | 3, hq => cases hq; exact k3
    | 4, hq => cases hq; exact k4
    | 5, hq => cases hq; exact k5
    | 6, hq => cases hq; exact k6
    | 7, hq => cases hq; exact k7
    | 8, hq => cases hq; exact k8
    | k + 9, hq => cases hq
  · match k, hq with
    | 0, hq => cases hq; exact ⟨p0, q0⟩
    | 1, hq => cases hq; exact ⟨p1, q1⟩
    | 2, hq => cases hq; exact ⟨p2, q2⟩
    | 3, hq => cases hq; exact ⟨p3, q3⟩
    | 4, hq => cases hq; exact ⟨p4, q4⟩
    | 5, hq => cases hq; exact ⟨p5, q5⟩
    | 6, hq => cases hq; exact ⟨p6, q6⟩
    | 7, hq => cases hq; exact ⟨p7, q7⟩
    | k + 8, hq => cases hq
theorem fc_str (hg : ∀ w ∈ fc_G, w.before args s = true) {A : Nat → Prop} (hA : ∀ a : Nat, a < s.heap.size → ¬ A a) : ∃ adS adV : Nat → Nat, ∀ k, k < 8 → (fc_st k).eval args s none [] s = some (.ref (adS k)) ∧ va_O "java/lang/String" (adS k) A s s.heap ∧ va_OF "java/lang/String" "coder" "B" (.int 0) (adS k) A s s.heap ∧ va_OF "java/lang/String" "value" "[B" (.ref (adV k)) (adS k) A s s.heap ∧ va_T .byte (adV k) (fw_sl k) (fun j => .int (fw_sc k j)) A s s.heap := by
  have h0 : ∀ k : Nat, ∃ q : Nat × Nat, k < 8 → (fc_st k).eval args s none [] s = some (.ref q.1) ∧ va_O "java/lang/String" q.1 A s s.heap ∧ va_OF "java/lang/String" "coder" "B" (.int 0) q.1 A s s.heap ∧ va_OF "java/lang/String" "value" "[B" (.ref q.2) q.1 A s s.heap ∧ va_T .byte q.2 (fw_sl k) (fun j => .int (fw_sc k j)) A s s.heap := by
    intro k
    by_cases hk : k < 8
    · obtain ⟨f, g, h1, h2⟩ := vk_Sof (args := args) (s := s) (N := 1) (tm := fun _ => fc_st k) (len := [fw_sl k]) (byt := [fw_sb.getD k []]) (A := A) (fun i hi => (by have e0 : i = 0 := (by omega); subst e0; exact fc_s6 k hk)) (fun i hi => fc_g hg (fc_s1 k hk)) (fun i hi => fc_g hg (fc_s2 k hk)) (fun i hi => fc_g hg (fc_s3 k hk)) (fun i hi => (by have e0 : i = 0 := (by omega); subst e0; exact fc_g hg (fc_s4 k hk))) (fun i hi j hj => (by have e0 : i = 0 := (by omega); subst e0; exact fc_g hg (fc_s5 k hk j hj))) (fun i j hi hj h => absurd (show i = j by omega) h) hA
      exact ⟨(f 0, g 0), fun _ => ⟨h2 0 (by decide), h1.1 0 (by decide)⟩⟩
    · exact ⟨(0, 0), fun h => absurd h hk⟩
  obtain ⟨ad, had⟩ := Classical.axiomOfChoice h0
  exact ⟨fun k => (ad k).1, fun k => (ad k).2, had⟩
theorem fc_exS (hg : ∀ w ∈ fc_G, w.before args s = true) : ∃ adX : Nat → Nat, ∀ k, k < 22 → (Term.string "LaundryService" (fc_xi k)).eval args s none [] s = some (.ref (adX k)) := by
  have h0 : ∀ k : Nat, ∃ q : Nat, k < 22 → (Term.string "LaundryService" (fc_xi k)).eval args s none [] s = some (.ref q) := by
    intro k
    by_cases hk : k < 22
    · obtain ⟨a, c, cell, kk, q1, -⟩ := Cond.exactly_spec (fc_g hg (fc_x1 k hk))
      exact ⟨a, fun _ => q1⟩
    · exact ⟨0, fun h => absurd h hk⟩
  exact Classical.axiomOfChoice h0
def fc_x (adK adF adX adS adV : Nat → Nat) (aK : Nat) : Nat → Nat → Nat := fun kind k => match kind with
  | 0 => adK k
  | 1 => adF k
  | 2 => adX k
  | 4 => aK
  | 5 => adS k
  | _ => adV k
theorem fc_all (hts : ∀ w ∈ lw_tbl, w.before args s = true) (hg : ∀ w ∈ fc_G, w.before args s = true) (D : va_G) (cy : Nat → ClassId) : ∃ x : Nat → Nat → Nat, fw_S (fb_E D x cy s.heap.size) s s.heap ∧ (∀ i j : Nat, i < 6 → j < 6 → x 0 i = x 0 j → i = j) ∧ (∀ i j : Nat, i < 5 → j < 5 → x 1 i = x 1 j → i = j) := by
  have hA : ∀ a : Nat, a < s.heap.size → ¬ s.heap.size ≤ a := fun a h => Nat.not_le.mpr h
  obtain ⟨adK, hKe, hKv⟩ := va_Enof2 (args := args) (s := s) (E := "LaundryService$Keyword") (d := "LLaundryService$Keyword;") (nm := fc_kn) (F := []) (A := fun q => s.heap.size ≤ q) (fun i hi => fc_t hts (fc_kl i hi)) (fc_t hts (i := 7) (by decide +kernel)) (fun i hi => fc_g hg (fc_ke i hi)) (fun q hq => absurd hq List.not_mem_nil) (fun i j hi hj hij => (fc_kq i hi j hj hij).imp (fc_g hg) (fc_g hg)) hA
  obtain ⟨adF, hFe, hFv⟩ := va_Enof2 (args := args) (s := s) (E := "LaundryService$Fault") (d := "LLaundryService$Fault;") (nm := fc_fn) (F := []) (A := fun q => s.heap.size ≤ q) (fun i hi => fc_t hts (fc_fl i hi)) (fc_t hts (i := 16) (by decide +kernel)) (fun i hi => fc_g hg (fc_fe i hi)) (fun q hq => absurd hq List.not_mem_nil) (fun i j hi hj hij => (fc_fq i hi j hj hij).imp (fc_g hg) (fc_g hg)) hA
  obtain ⟨adS, adV, hS8⟩ := fc_str (s := s) hg (A := fun q => s.heap.size ≤ q) hA
  obtain ⟨adX, hX⟩ := fc_exS (s := s) hg
  obtain ⟨aK, hKt, hKT⟩ := va_Tof (tm := (Term.static "LaundryService" "KEYWORDS" "[LLaundryService$Keyword;")) (ty := .object "LaundryService$Keyword") (N := 6) (f := fun i => .ref (adK i)) (A := fun q => s.heap.size ≤ q) (by decide) (fc_g hg fc_a1) (va_eqt (fc_g hg fc_a2)) (fun j hj => va_eqv (fc_g hg (fc_a3 j hj)) (hKv j hj)) hA
  have hM : ∀ k, k < 8 → (Term.string "LaundryServiceModel" (fc_mi k)).eval args s none [] s = some (.ref (adS k)) := by
    intro k hk
    by_cases h6 : k < 6
    · exact va_eqv (fc_g hg (fc_s7 k h6)) (hS8 k hk).1
    · rcases (show k = 6 ∨ k = 7 by omega) with rfl | rfl
      · exact (hS8 6 (by decide)).1
      · exact (hS8 7 (by decide)).1
  refine ⟨fc_x adK adF adX adS adV aK, ⟨⟨fun q hq => ?_, fun q hq => ?_, fun q hq => ?_, ?_⟩, fun q hq => ?_, fun q hq => ?_, fun q hq => ?_, ⟨hKT, fun k hk => (hS8 k hk).2⟩, fun q hq => ?_⟩, fun i j hi hj e => hKe.2 i j hi hj e, fun i j hi hj e => hFe.2 i j hi hj e⟩
  · simp only [fw_nw, List.mem_cons, List.not_mem_nil, or_false] at hq
    rcases hq with rfl | rfl | rfl | rfl
    · exact va_Nw.of rfl (fc_t hts (i := 428) (by decide +kernel))
    · exact va_Nw.of rfl (fc_t hts (i := 548) (by decide +kernel))
    · exact va_Nw.of rfl (fc_t hts (i := 180) (by decide +kernel))
    · exact va_Nw.of rfl (fc_t hts (i := 130) (by decide +kernel))
  · simp only [fw_nc, List.mem_cons, List.not_mem_nil, or_false] at hq
    rcases hq with rfl | rfl | rfl | rfl | rfl | rfl
    · exact va_Nw.of rfl (fc_t hts (i := 445) (by decide +kernel))
    · exact va_Nw.of rfl (fc_t hts (i := 459) (by decide +kernel))
    · exact va_Nw.of rfl (fc_t hts (i := 494) (by decide +kernel))
    · exact va_Nw.of rfl (fc_t hts (i := 477) (by decide +kernel))
    · exact va_Nw.of rfl (fc_t hts (i := 689) (by decide +kernel))
    · exact va_Nw.of rfl (fc_t hts (i := 892) (by decide +kernel))
  · simp only [fw_nd, List.mem_cons, List.not_mem_nil, or_false] at hq
    rcases hq with rfl | rfl | rfl
    · exact va_Nw.of rfl (fc_t hts (i := 397) (by decide +kernel))
    · exact va_Nw.of rfl (fc_t hts (i := 399) (by decide +kernel))
    · exact va_Nw.of rfl (fc_t hts (i := 401) (by decide +kernel))
  · exact va_Nw.of rfl (fc_t hts (i := 941) (by decide +kernel))
  · simp only [fw_zs, List.mem_cons, List.not_mem_nil, or_false] at hq
    rcases hq with rfl | rfl | rfl | rfl | rfl | rfl | rfl | rfl | rfl | rfl | rfl | rfl | rfl
    · exact (hFe.1 0 (by decide)).1
    · exact (hFe.1 1 (by decide)).1
    · exact (hFe.1 2 (by decide)).1
    · exact (hFe.1 3 (by decide)).1
    · exact (hFe.1 4 (by decide)).1
    · exact (hKe.1 0 (by decide)).1
    · exact (hKe.1 1 (by decide)).1
    · exact (hKe.1 2 (by decide)).1
    · exact (hKe.1 3 (by decide)).1
    · exact (hKe.1 4 (by decide)).1
    · exact (hKe.1 5 (by decide)).1
    · exact va_Zref (fc_t hts (w := .laysStatic "LaundryService" "KEYWORDS" "[LLaundryService$Keyword;") (i := 942) (by decide +kernel)) (fc_t hts (w := .initialized "LaundryService") (i := 1) (by decide +kernel)) hKt hA
    · exact va_Zof (fc_t hts (i := 956) (by decide +kernel)) (fc_t hts (i := 15) (by decide +kernel)) (va_eqi (fc_g hg (i := 48) (by decide +kernel))) hA
  · simp only [fw_zq, List.mem_cons, List.not_mem_nil, or_false] at hq
    rcases hq with rfl | rfl | rfl
    · exact vx_Zqof (fc_t hts (i := 356) (by decide +kernel)) (fc_t hts (i := 10) (by decide +kernel)) (fc_g hg (i := 10) (by decide +kernel)) hA
    · exact vx_Zqof (fc_t hts (i := 358) (by decide +kernel)) (fc_t hts (i := 10) (by decide +kernel)) (fc_g hg (i := 11) (by decide +kernel)) hA
    · exact vx_Zqof (fc_t hts (i := 972) (by decide +kernel)) (fc_t hts (i := 26) (by decide +kernel)) (fc_g hg (i := 49) (by decide +kernel)) hA
  · simp only [fw_rs, List.mem_cons, List.not_mem_nil, or_false] at hq
    rcases hq with rfl | rfl | rfl | rfl | rfl | rfl | rfl | rfl | rfl | rfl | rfl | rfl | rfl | rfl | rfl | rfl | rfl | rfl | rfl | rfl | rfl | rfl | rfl | rfl | rfl | rfl | rfl | rfl | rfl | rfl
    · exact vk_R.of (fc_t hts (i := 685) (by decide +kernel)) (hX 0 (by decide))
    · exact vk_R.of (fc_t hts (i := 696) (by decide +kernel)) (hX 1 (by decide))
    · exact vk_R.of (fc_t hts (i := 815) (by decide +kernel)) (hX 2 (by decide))
    · exact vk_R.of (fc_t hts (i := 864) (by decide +kernel)) (hX 3 (by decide))
    · exact vk_R.of (fc_t hts (i := 876) (by decide +kernel)) (hX 4 (by decide))
    · exact vk_R.of (fc_t hts (i := 899) (by decide +kernel)) (hX 5 (by decide))
    · exact vk_R.of (fc_t hts (i := 908) (by decide +kernel)) (hX 6 (by decide))
    · exact vk_R.of (fc_t hts (i := 917) (by decide +kernel)) (hX 7 (by decide))
    · exact vk_R.of (fc_t hts (i := 1012) (by decide +kernel)) (hX 8 (by decide))
    · exact vk_R.of (fc_t hts (i := 1041) (by decide +kernel)) (hX 9 (by decide))
    · exact vk_R.of (fc_t hts (i := 1050) (by decide +kernel)) (hX 10 (by decide))
    · exact vk_R.of (fc_t hts (i := 1058) (by decide +kernel)) (hX 11 (by decide))
    · exact vk_R.of (fc_t hts (i := 1086) (by decide +kernel)) (hX 12 (by decide))
    · exact vk_R.of (fc_t hts (i := 1094) (by decide +kernel)) (hX 13 (by decide))
    · exact vk_R.of (fc_t hts (i := 1106) (by decide +kernel)) (hX 14 (by decide))
    · exact vk_R.of (fc_t hts (i := 630) (by decide +kernel)) (hX 15 (by decide))
    · exact vk_R.of (fc_t hts (i := 714) (by decide +kernel)) (hX 16 (by decide))
    · exact vk_R.of (fc_t hts (i := 745) (by decide +kernel)) (hX 17 (by decide))
    · exact vk_R.of (fc_t hts (i := 452) (by decide +kernel)) (hX 18 (by decide))
    · exact vk_R.of (fc_t hts (i := 466) (by decide +kernel)) (hX 19 (by decide))
    · exact vk_R.of (fc_t hts (i := 484) (by decide +kernel)) (hX 20 (by decide))
    · exact vk_R.of (fc_t hts (i := 501) (by decide +kernel)) (hX 21 (by decide))
    · exact vk_R.of (fc_t hts (i := 1361) (by decide +kernel)) (hM 7 (by decide))
    · exact vk_R.of (fc_t hts (i := 1511) (by decide +kernel)) (hM 6 (by decide))
    · exact vk_R.of (fc_t hts (i := 1497) (by decide +kernel)) (hM 1 (by decide))
    · exact vk_R.of (fc_t hts (i := 1512) (by decide +kernel)) (hM 0 (by decide))
    · exact vk_R.of (fc_t hts (i := 1513) (by decide +kernel)) (hM 2 (by decide))
    · exact vk_R.of (fc_t hts (i := 1514) (by decide +kernel)) (hM 3 (by decide))
    · exact vk_R.of (fc_t hts (i := 1515) (by decide +kernel)) (hM 4 (by decide))
    · exact vk_R.of (fc_t hts (i := 1516) (by decide +kernel)) (hM 5 (by decide))
  · simp only [fw_kf, List.mem_cons, List.not_mem_nil, or_false] at hq
    rcases hq with rfl | rfl | rfl | rfl
    · exact va_Efof (E := "LaundryService$Keyword") (d0 := "LLaundryService$Keyword;") (nm := fc_kn) (tm := fc_st) hKv (fun k hk => fc_g hg (fc_dw k hk)) (fun k hk => (hS8 k (by omega)).1) hA
    · exact va_Efof (E := "LaundryService$Keyword") (d0 := "LLaundryService$Keyword;") (nm := fc_kn) (tm := fun k => .int (fw_kd 0 k)) hKv (fun k hk => fc_g hg (fc_d0 k hk)) (fun k hk => rfl) hA
    · exact va_Efof (E := "LaundryService$Keyword") (d0 := "LLaundryService$Keyword;") (nm := fc_kn) (tm := fun k => .int (fw_kd 1 k)) hKv (fun k hk => fc_g hg (fc_d1 k hk)) (fun k hk => rfl) hA
    · exact va_Efof (E := "LaundryService$Keyword") (d0 := "LLaundryService$Keyword;") (nm := fc_kn) (tm := fun k => .int (fw_kd 2 k)) hKv (fun k hk => fc_g hg (fc_d2 k hk)) (fun k hk => rfl) hA
theorem fc_S2 (hg : ∀ w ∈ fc_G, w.before args s = true) : fw_S2 s := by
  intro q hq
  simp only [fw_nn, List.mem_cons, List.not_mem_nil, or_false] at hq
  rcases hq with rfl | rfl | rfl | rfl | rfl | rfl | rfl | rfl
  · exact va_Nc.of (fc_g hg (i := 134) (by decide +kernel))
  · exact va_Nc.of (fc_g hg (i := 149) (by decide +kernel))
  · exact va_Nc.of (fc_g hg (i := 132) (by decide +kernel))
  · exact va_Nc.of (fc_g hg (i := 179) (by decide +kernel))
  · exact va_Nc.of (fc_g hg (i := 133) (by decide +kernel))
  · exact va_Nc.of (fc_g hg (i := 135) (by decide +kernel))
  · exact va_Nc.of (fc_g hg (i := 180) (by decide +kernel))
  · exact va_Nc.of (fc_g hg (i := 148) (by decide +kernel))
end FC
