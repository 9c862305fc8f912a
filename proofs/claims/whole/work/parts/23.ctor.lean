/-! the constructors: the law's world while it comes to be, a list of cells one behind another; laid by wip/whole/lay4.py -/
def fb_P (E : fw_E) (L : List va_E) (H : Heap) : Prop := H.size = fw_z E + L.length ∧ ∀ (i : Nat) (e : va_E), L[i]? = some e → va_at (fw_D E) vwCl (fw_z E + i, e) H
theorem fb_one {E : fw_E} {L : List va_E} {H : Heap} {i : Nat} {e : va_E} (hP : fb_P E L H) (he : L[i]? = some e) : va_P (fw_D E) vwCl [(fw_z E + i, e)] H := by
  intro k q h
  cases k with
  | zero => cases h; exact hP.2 i e he
  | succ k => simp at h
theorem fb_add {E : fw_E} {L : List va_E} {H H1 : Heap} {e : va_E} (hP : fb_P E L H) (hz : H1.size = fw_z E + L.length + 1) (ho : ∀ q : Nat, q < fw_z E + L.length → H1[q]? = H[q]?) (he : va_at (fw_D E) vwCl (fw_z E + L.length, e) H1) : fb_P E (L ++ [e]) H1 := by
  refine ⟨by rw [hz, List.length_append]; rfl, fun i x hx => ?_⟩
  by_cases hi : i < L.length
  · rw [List.getElem?_append_left hi] at hx
    exact (hP.2 i x hx).kept (ho _ (by omega))
  · rw [List.getElem?_append_right (by omega)] at hx
    have h1 : i - L.length < 1 := (List.getElem?_eq_some_iff.mp hx).1
    have h2 : i = L.length := by omega
    subst h2
    rw [Nat.sub_self] at hx
    cases hx
    exact he
theorem fb_upd {E : fw_E} {L : List va_E} {H H1 : Heap} {i : Nat} {e : va_E} (hP : fb_P E L H) (hz : H1.size = H.size) (oq : ∀ q : Nat, q ≠ fw_z E + i → H1[q]? = H[q]?) (he : va_at (fw_D E) vwCl (fw_z E + i, e) H1) : fb_P E (L.set i e) H1 := by
  refine ⟨by rw [hz, hP.1, List.length_set], fun k x hx => ?_⟩
  rw [List.getElem?_set] at hx
  by_cases hk : i = k
  · subst hk
    rw [if_pos rfl] at hx
    split at hx
    · cases hx; exact he
    · cases hx
  · rw [if_neg hk] at hx
    exact (hP.2 k x hx).kept (oq _ (by omega))
theorem fb_ix {A B : List va_E} {a k : Nat} (ha : A.length = a) : (A ++ B)[a + k]? = B[k]? := by
  subst ha
  rw [List.getElem?_append_right (Nat.le_add_right _ _), Nat.add_sub_cancel_left]
theorem fb_sx {A B : List va_E} {a k : Nat} {e : va_E} (ha : A.length = a) : (A ++ B).set (a + k) e = A ++ B.set k e := by
  subst ha
  rw [List.set_append_right _ _ (Nat.le_add_right _ _), Nat.add_sub_cancel_left]
def fb_Pre (E : fw_E) (L : List va_E) (U : State) : Prop := va_K (fw_D E) vwCl (fw_tys E) U ∧ fb_P E L U.heap ∧ fw_S E U U.heap ∧ va_AO "LaundryService$State" U ∧ va_AO "LaundryService$Command" U
def fb_Q (E : fw_E) (L : List va_E) : Array Value → State → Outcome → State → Prop := fun _ st oc t => oc = .returned none ∧ fb_P E L t.heap ∧ va_F (fw_A E) st t
theorem fb_blind {E : fw_E} {L : List va_E} {av : List Value} : FrameBlind (va_Pc av (fb_Pre E L)) := fun a U g mk q => ⟨q.1, va_K.moved (u := U) (U := U.calling g mk a) (Vm.Alike.refl U.vm) q.2.1, q.2.2.1, fw_S_vm q.2.2.2.1 rfl, va_AO.moved (u := U) (U := U.calling g mk a) (Vm.Alike.refl U.vm) q.2.2.2.2.1, va_AO.moved (u := U) (U := U.calling g mk a) (Vm.Alike.refl U.vm) q.2.2.2.2.2⟩
theorem fb_pre {E : fw_E} {L : List va_E} {s : State} {H : Heap} {locs : List Loc} (hK : va_K (fw_D E) vwCl (fw_tys E) s) (hP : fb_P E L H) (hSt : fw_S E s s.heap) (hO1 : va_AO "LaundryService$State" s) (hO2 : va_AO "LaundryService$Command" s) (hS : va_S (fw_A E) s.heap H locs) (U : State) (hU : U.heap = H) (hW : s.WarmedH U.vm) : fb_Pre E L U :=
  ⟨va_K.moved hW.alike hK, by rw [hU]; exact hP, fw_S_go hSt hW (fun a h1 h2 => by rw [hU]; exact hS.2.1 a h1 h2), va_AO.moved hW.alike hO1, va_AO.moved hW.alike hO2⟩
theorem fb_zA (E : fw_E) (n : Nat) : fw_A E (fw_z E + n) := Nat.le_add_right _ _
section FBR
variable {p : Program} {l : Launch} {e : Env} {R : Room} {s : State} {m : MethodId} {args : Array Value} {below : List Frame} {meth : Method} {c : Code} {H : Heap} {locs : List Loc} {cells slots : Nat} {Q : State → Prop}
variable {cc : ByteArray} {pc : Nat} {ls : Array Slot} {rest st0 : List Value} {E : fw_E} {A B : List va_E} {a : Nat}
theorem fb_ret {L' : List va_E} {av : Array Value} {mc ms : Nat} (hr : va_Run p l e R s m args below meth c H locs cells slots mc ms (F0 m pc ls st0) rest (fb_Q E L' av) (fw_A E)) (hS : va_S (fw_A E) s.heap H locs)
    (kk : ∀ (H1 : Heap) (locs1 : List Loc), fb_P E L' H1 → va_S (fw_A E) s.heap H1 locs1 → W p l e R s m args below meth c H1 locs1 (cells + mc) (slots + ms) Q (F0 m (pc + 3) ls rest)) : W p l e R s m args below meth c H locs cells slots Q (F0 m pc ls st0) := by
  intro T hT X
  obtain ⟨v', st₀, t, T', L, h0, X', hL, e1, e2, ⟨hv, hp, hz, hk⟩, st⟩ := hr T hT X
  cases hv
  rw [h0] at hz hk
  obtain ⟨t2, a1, b1⟩ := kk T'.heap (locs ++ L) (by rw [e1]; exact hp) ⟨Nat.le_trans hS.1 (by rw [e1]; exact hz), fun q h1 h2 => by rw [e1, hk q (Nat.lt_of_lt_of_le h1 hS.1) h2]; exact hS.2.1 q h1 h2, fun q hq => by
      rcases List.mem_append.mp hq with h | h
      · exact hS.2.2 q h
      · exact hL q h⟩ T' rfl X'
  exact ⟨t2, st t2 a1, b1⟩
theorem fb_grow {H1 : Heap} (hS : va_S (fw_A E) s.heap H locs) {n : Nat} (hn : H.size = n) (hz : H1.size = n + 1) (ho : ∀ q : Nat, q < n → H1[q]? = H[q]?) : va_S (fw_A E) s.heap H1 locs :=
  ⟨Nat.le_trans hS.1 (by omega), fun x h1 h2 => (ho x (hn ▸ Nat.lt_of_lt_of_le h1 hS.1)).trans (hS.2.1 x h1 h2), hS.2.2⟩
theorem fb_new (hexec : p.tables.exec = Jvm.exec) (hb : c.code = cc) {own C : String} {T : u_T} {N ci index : Nat} {Ts : List Cond} (hts : ∀ w ∈ Ts, w.before args s = true) (hin : ∀ w ∈ u_ws C T N, w ∈ Ts) (ty : Nat → FieldType) (hty : ∀ k, k < N → parseFieldDescriptor (T k).2.2.1 = some (ty k)) (hown : s.vm.findClass own = some m.cls) (hcl : (Cond.classLink own index C).before args s = true) (hinst : (Cond.instantiable C N).before args s = true) (hini : (Cond.initialized C).before args s = true)
    (hK : va_K (fw_D E) vwCl (fw_tys E) s) (ha : A.length = a) (hP : fb_P E (A ++ B) H) (hS : va_S (fw_A E) s.heap H locs) {n : Nat} (hn : B.length = n) (hc : vwCl[ci]? = some (C, T, N)) {fs : List Value} (hfs : ∀ j, j < N → defaultValue (ty j) = vp_V fs j) (hcells : cells + 1 ≤ R.cells) (hslots : slots + N ≤ R.slots) (hdg : decode cc pc = .ok (.new index, 3))
    (kk : ∀ H1 : Heap, fb_P E (A ++ (B ++ [.inr (ci, fs)])) H1 → va_S (fw_A E) s.heap H1 locs → W p l e R s m args below meth c H1 locs (cells + 1) (slots + N) Q (F0 m (pc + 3) ls (.ref (fw_z E + (a + n)) :: rest))) : W p l e R s m args below meth c H locs cells slots Q (F0 m pc ls rest) := by
  have hKn := hK.1 ci _ hc
  subst ha
  subst hn
  have hsz : H.size = fw_z E + (A.length + B.length) := by rw [hP.1, List.length_append]
  refine W.newcK hexec hb hown hcl hinst hini rfl hdg hcells hslots hKn.2.1 hsz fun H1 kC hkC e1 z1 o1 => ?_
  refine kk H1 ?_ (fb_grow hS hsz z1 o1)
  rw [← List.append_assoc]
  refine fb_add hP (by rw [z1, List.length_append]) (fun q hq => o1 q (by rw [List.length_append] at hq; exact hq)) ?_
  rw [List.length_append]
  exact ⟨_, hc, (u_born ty hts hin hKn hkC e1 hty).to hfs⟩
theorem fb_nm (hK : va_K (fw_D E) vwCl (fw_tys E) s) {t0 : Nat} {cA : ClassId} {ty : FieldType} {q : ClassId × FieldType} (ht : (fw_tys E)[t0]? = some q) (h2 : q.2 = ty) (h : s.vm.findClass ("[" ++ ty.toString) = some cA) (hr : va_RA s q.1 q.2 → s.vm.findClass ("[" ++ ty.toString) = some q.1) : cA = q.1 := Option.some.inj (h.symm.trans (hr (hK.2 t0 q ht).2))
theorem fb_newa (hexec : p.tables.exec = Jvm.exec) (hb : c.code = cc) {atype : ArrayType} (harr : (Cond.arrayClass (newarray.typeOf atype)).before args s = true) {ty : FieldType} (hty : newarray.typeOf atype = ty) (hK : va_K (fw_D E) vwCl (fw_tys E) s) (ha : A.length = a) (hP : fb_P E (A ++ B) H) (hS : va_S (fw_A E) s.heap H locs) {nn : Nat} (hB : B.length = nn) {t0 : Nat} {cT : ClassId} (ht : (fw_tys E)[t0]? = some (cT, ty)) (hra : va_RA s cT ty → s.vm.findClass ("[" ++ ty.toString) = some cT)
    {n : Int32} {N' : Nat} {a0 : vp_A} (hcell : ∀ cA : ClassId, vp_cell cA a0 = arrV cA N' (fun _ => defaultValue ty)) (hn : ¬ n < 0) (hN : n.toNatClampNeg = N') (hbytes : N' * componentBytes ty ≤ 536870912) (hcells : cells + 1 ≤ R.cells) (hslots : slots + N' ≤ R.slots) (hdg : decode cc pc = .ok (.newarray atype, 2))
    (kk : ∀ H1 : Heap, fb_P E (A ++ (B ++ [.inl (cT, a0)])) H1 → va_S (fw_A E) s.heap H1 locs →
      W p l e R s m args below meth c H1 locs (cells + 1) (slots + N') Q (F0 m (pc + 2) ls (.ref (fw_z E + (a + nn)) :: rest))) : W p l e R s m args below meth c H locs cells slots Q (F0 m pc ls (.int n :: rest)) := by
  subst hty
  subst ha
  subst hB
  have hsz : H.size = fw_z E + (A.length + B.length) := by rw [hP.1, List.length_append]
  refine va_newaK hexec hb harr rfl hdg rfl hn hN hbytes hcells hslots hsz fun H1 cA e1 z1 o1 hAr hNm => ?_
  have hc : cA = cT := fb_nm hK ht rfl hNm hra
  subst hc
  refine kk H1 ?_ (fb_grow hS hsz z1 o1)
  rw [← List.append_assoc]
  refine fb_add hP (by rw [z1, List.length_append]) (fun q hq => o1 q (by rw [List.length_append] at hq; exact hq)) ?_
  rw [List.length_append]
  show H1[_]? = some (vp_cell _ _)
  rw [hcell]
  exact e1
theorem fb_anew (hexec : p.tables.exec = Jvm.exec) (hb : c.code = cc) {own C : String} {index : Nat} (hown : s.vm.findClass own = some m.cls) (hclink : (Cond.classLink own index C).before args s = true) (hover : va_AO C s) (hK : va_K (fw_D E) vwCl (fw_tys E) s) (ha : A.length = a) (hP : fb_P E (A ++ B) H) (hS : va_S (fw_A E) s.heap H locs) {nn : Nat} (hB : B.length = nn) {t0 : Nat} {cT : ClassId} (ht : (fw_tys E)[t0]? = some (cT, .object C))
    {n : Int32} {N' : Nat} (hn : ¬ n < 0) (hN : n.toNatClampNeg = N') (hbytes : N' * 4 ≤ 536870912) (hcells : cells + 1 ≤ R.cells) (hslots : slots + N' ≤ R.slots) (hdg : decode cc pc = .ok (.anewarray index, 3))
    (kk : ∀ H1 : Heap, fb_P E (A ++ (B ++ [.inl (cT, N', .inr (.inr (.inr (.inr (fun _ => none)))))])) H1 → va_S (fw_A E) s.heap H1 locs →
      W p l e R s m args below meth c H1 locs (cells + 1) (slots + N') Q (F0 m (pc + 3) ls (.ref (fw_z E + (a + nn)) :: rest))) : W p l e R s m args below meth c H locs cells slots Q (F0 m pc ls (.int n :: rest)) := by
  subst hN
  subst ha
  subst hB
  have hsz : H.size = fw_z E + (A.length + B.length) := by rw [hP.1, List.length_append]
  refine W.anew hexec hb hown hclink (va_AO.use hover) rfl hdg rfl hn hbytes hcells hslots fun cA kA comp f1 f2 f3 f4 => ?_
  generalize hH1 : H.push ({ cls := cA, slots := Array.replicate n.toNatClampNeg .null, vm := .none } : Cell) = H1
  have z1 : H1.size = H.size + 1 := by rw [← hH1, Array.size_push]
  have e1 : H1[H.size]? = some (arrV cA n.toNatClampNeg (fun _ => .null)) := by rw [← hH1, Array.getElem?_push_size, ← arrV_new]
  have o1 : ∀ q : Nat, q < H.size → H1[q]? = H[q]? := fun q hq => by rw [← hH1, Array.getElem?_push, if_neg (Nat.ne_of_lt hq)]
  obtain ⟨kA', comp', -, -, -, g4⟩ := (hK.2 t0 _ ht).2
  have hc : cA = cT := Option.some.inj (f1.symm.trans g4)
  subst hc
  rw [hsz] at z1 e1 o1 ⊢
  refine kk H1 ?_ (fb_grow hS hsz z1 o1)
  rw [← List.append_assoc]
  refine fb_add hP (by rw [z1, List.length_append]) (fun q hq => o1 q (by rw [List.length_append] at hq; exact hq)) ?_
  rw [List.length_append]
  show H1[_]? = some (vp_cell _ _)
  rw [vp_cell_q]
  exact e1
theorem fb_put (hexec : p.tables.exec = Jvm.exec) (hb : c.code = cc) {own ref C : String} {T : u_T} {N ci index : Nat} {Ts : List Cond} (hts : ∀ w ∈ Ts, w.before args s = true) (hin : ∀ w ∈ u_ws C T N, w ∈ Ts) (ty0 : Nat → FieldType) (hty : ∀ k, k < N → parseFieldDescriptor (T k).2.2.1 = some (ty0 k)) (hnm : ∀ a, a < N → ∀ b, b < N → a ≠ b → (T a).2.1 ≠ (T b).2.1) (hown : s.vm.findClass own = some m.cls) (hK : va_K (fw_D E) vwCl (fw_tys E) s) (ha : A.length = a) (hP : fb_P E (A ++ B) H) (hS0 : va_S (fw_A E) s.heap H locs) (i : Nat) {fs : List Value} (he : B[i]? = some (.inr (ci, fs))) (hc : vwCl[ci]? = some (C, T, N)) (k : Nat) (hk : k < N) (hlink : (Cond.fieldLink own index ref (T k).2.1 (T k).2.2.1).before args s = true) (hsame : ∀ x, s.fieldFound? (T k).1 (T k).2.1 (T k).2.2.1 = some x → s.fieldFound? ref (T k).2.1 (T k).2.2.1 = some x) (hfin : (T k).2.2.2 = false) {ty : FieldType} {v : Value} (hd : parseFieldDescriptor (T k).2.2.1 = some ty) (hn : narrow ty v = v) (hfit : fits ty v = true) (hl : k < fs.length)
    (hdg : decode cc pc = .ok (.putfield index, 3)) (kk : ∀ (H1 : Heap) (locs1 : List Loc), fb_P E (A ++ B.set i (.inr (ci, fs.set k v))) H1 → va_S (fw_A E) s.heap H1 locs1 → W p l e R s m args below meth c H1 locs1 cells slots Q (F0 m (pc + 3) ls rest)) : W p l e R s m args below meth c H locs cells slots Q (F0 m pc ls (v :: .ref (fw_z E + (a + i)) :: rest)) := by
  have hap := va_apart (own := own) hts hin ty0 hty hnm hK hc
  have hat := hP.2 (a + i) _ ((fb_ix ha).trans he)
  obtain ⟨r, h1, cell, q1, q2, q3, q4⟩ := hat
  have hr : r = (C, T, N) := Option.some.inj (h1.symm.trans hc)
  subst hr
  obtain ⟨hS, hfc, kC, hkC, hkind⟩ := hK.1 ci _ hc
  obtain ⟨cf, kf, fi, g, hi, hsl⟩ := hS k hk
  have hlay := hts _ (hin _ (u_in_lay hk))
  unfold u_lay at hlay
  rw [if_neg (by rw [hfin]; decide)] at hlay
  have hst := (u_facts hfc hkC (u_lays hts hin hk) hi).1
  have h6 := u_store hfc hkC hkind hlay hi hd hn hfit
  refine W.putK hexec hb (f := g) ⟨hown, hlink, ⟨_, _, _, hsame _ hi⟩, hst⟩ (by rw [q2]; exact h6) q1 q3 (by rw [hsl]; exact k2_hasslot (q4 k hk)) rfl rfl hdg fun H' e1 e2 e3 => ?_
  rw [hsl] at e1 ⊢
  refine kk H' _ ?_ (hS0.put e2 e3 (fb_zA E _))
  rw [← fb_sx ha]
  exact fb_upd hP e2 e3 ⟨_, hc, t_OB.to (V := updV (vp_V fs) k v) ⟨_, e1, q2, q3, t_set q4 hap hk v⟩ (fun j _ => vp_updV_set hl v j)⟩
theorem fb_putF (hexec : p.tables.exec = Jvm.exec) (hb : c.code = cc) {own ref C : String} {T : u_T} {N ci index : Nat} {Ts : List Cond} (hts : ∀ w ∈ Ts, w.before args s = true) (hin : ∀ w ∈ u_ws C T N, w ∈ Ts) (ty0 : Nat → FieldType) (hty : ∀ k, k < N → parseFieldDescriptor (T k).2.2.1 = some (ty0 k)) (hnm : ∀ a, a < N → ∀ b, b < N → a ≠ b → (T a).2.1 ≠ (T b).2.1) (hown : s.vm.findClass own = some m.cls) (hK : va_K (fw_D E) vwCl (fw_tys E) s) (ha : A.length = a) (hP : fb_P E (A ++ B) H) (hS0 : va_S (fw_A E) s.heap H locs) (i : Nat) {fs : List Value} (he : B[i]? = some (.inr (ci, fs))) (hc : vwCl[ci]? = some (C, T, N)) (k : Nat) (hk : k < N) (hlink : (Cond.fieldLink own index ref (T k).2.1 (T k).2.2.1).before args s = true) (hsame : ∀ x, s.fieldFound? (T k).1 (T k).2.1 (T k).2.2.1 = some x → s.fieldFound? ref (T k).2.1 (T k).2.2.1 = some x) (hfin : (T k).2.2.2 = true) (hin2 : meth.name = "<init>") (hdecl : (T k).1 = own) {ty : FieldType} {v : Value} (hd : parseFieldDescriptor (T k).2.2.1 = some ty) (hn : narrow ty v = v) (hfit : fits ty v = true) (hl : k < fs.length)
    (hdg : decode cc pc = .ok (.putfield index, 3)) (kk : ∀ (H1 : Heap) (locs1 : List Loc), fb_P E (A ++ B.set i (.inr (ci, fs.set k v))) H1 → va_S (fw_A E) s.heap H1 locs1 → W p l e R s m args below meth c H1 locs1 cells slots Q (F0 m (pc + 3) ls rest)) : W p l e R s m args below meth c H locs cells slots Q (F0 m pc ls (v :: .ref (fw_z E + (a + i)) :: rest)) := by
  have hap := va_apart (own := own) hts hin ty0 hty hnm hK hc
  have hat := hP.2 (a + i) _ ((fb_ix ha).trans he)
  obtain ⟨r, h1, cell, q1, q2, q3, q4⟩ := hat
  have hr : r = (C, T, N) := Option.some.inj (h1.symm.trans hc)
  subst hr
  obtain ⟨hS, hfc, kC, hkC, hkind⟩ := hK.1 ci _ hc
  obtain ⟨cf, kf, fi, g, hi, hsl⟩ := hS k hk
  have hlay := hts _ (hin _ (u_in_lay hk))
  unfold u_lay at hlay
  rw [if_pos hfin] at hlay
  have hst := (u_facts hfc hkC (u_lays hts hin hk) hi).1
  have hcf : m.cls = cf := by
    obtain ⟨_, _, c', _, _, _, -, -, hf', -, -, -, hown2, -⟩ := Cond.laysFinal_spec hlay
    have e1 : c' = cf := by have := hi.symm.trans hf'; simp at this; exact this.1.symm
    rw [hdecl] at hown2
    rw [← e1]; exact Option.some.inj (hown.symm.trans hown2)
  have h6 := u_fits hfc hkC hkind (Or.inr hlay) hi hd hn hfit
  refine W.putFinK hexec hb hown hlink (hsame _ hi) hst hcf hin2 (by rw [q2]; exact h6) q1 q3 (by rw [hsl]; exact k2_hasslot (q4 k hk)) rfl rfl hdg fun H' e1 e2 e3 => ?_
  rw [hsl] at e1 ⊢
  refine kk H' _ ?_ (hS0.put e2 e3 (fb_zA E _))
  rw [← fb_sx ha]
  exact fb_upd hP e2 e3 ⟨_, hc, t_OB.to (V := updV (vp_V fs) k v) ⟨_, e1, q2, q3, t_set q4 hap hk v⟩ (fun j _ => vp_updV_set hl v j)⟩
theorem fb_iast (hexec : p.tables.exec = Jvm.exec) (hb : c.code = cc) (hK : va_K (fw_D E) vwCl (fw_tys E) s) (ha : A.length = a) (hP : fb_P E (A ++ B) H) (hS : va_S (fw_A E) s.heap H locs) (q : Nat) {n : Nat} {f : Nat → Int32} (he : B[q]? = some (.inl (fw_cy E 0, n, .inl f))) {i x : Int32} (hin : vp_in i n) (hdg : decode cc pc = .ok (.iastore, 1))
    (kk : ∀ (H1 : Heap) (locs1 : List Loc), fb_P E (A ++ B.set q (.inl (fw_cy E 0, n, .inl (upd f i.toNatClampNeg x)))) H1 → va_S (fw_A E) s.heap H1 locs1 → W p l e R s m args below meth c H1 locs1 cells slots Q (F0 m (pc + 1) ls rest)) : W p l e R s m args below meth c H locs cells slots Q (F0 m pc ls (.int x :: .int i :: .ref (fw_z E + (a + q)) :: rest)) := by
  have hat := hP.2 (a + q) _ ((fb_ix ha).trans he)
  refine W.iast hexec hb hat ((hK.2 0 _ rfl).1 n (fun q => .int (f q))) (fun q => by cases q) (by show ¬ (i < 0 ∨ (arrV _ _ _).slots.size ≤ _); rw [arrV_size]; exact hin) rfl rfl hdg fun H1 e z oq => ?_
  refine kk H1 _ ?_ (hS.put z oq (fb_zA E _))
  rw [← fb_sx ha]
  refine fb_upd hP z oq ?_
  show H1[_]? = some (vp_cell _ _)
  rw [e]
  rw [vp_cell_i, vp_cell_i, arrV_store]
  congr 2
  funext q
  by_cases hq : q = i.toNatClampNeg
  · subst hq
    simp [updV, upd]
  · simp [updV, upd, hq]
theorem fb_aast (hexec : p.tables.exec = Jvm.exec) (hb : c.code = cc) (hK : va_K (fw_D E) vwCl (fw_tys E) s) (ha : A.length = a) (hP : fb_P E (A ++ B) H) (hS : va_S (fw_A E) s.heap H locs) (q qk t0 ci : Nat) {cA : ClassId} {r : vw_C} {n : Nat} {vs : List Value} {f : Nat → Option Nat} (he : B[q]? = some (.inl (cA, n, .inr (.inr (.inr (.inr f)))))) (ht : (fw_tys E)[t0]? = some (cA, .object r.1)) (hv : B[qk]? = some (.inr (ci, vs))) (hc : vwCl[ci]? = some r) {i : Int32} (hin : vp_in i n) (hdg : decode cc pc = .ok (.aastore, 1))
    (kk : ∀ (H1 : Heap) (locs1 : List Loc), fb_P E (A ++ B.set q (.inl (cA, n, .inr (.inr (.inr (.inr (va_up f i.toNatClampNeg (some (fw_z E + (a + qk)))))))))) H1 → va_S (fw_A E) s.heap H1 locs1 → W p l e R s m args below meth c H1 locs1 cells slots Q (F0 m (pc + 1) ls rest)) : W p l e R s m args below meth c H locs cells slots Q (F0 m pc ls (.ref (fw_z E + (a + qk)) :: .int i :: .ref (fw_z E + (a + q)) :: rest)) := by
  have hlt : i.toNatClampNeg < n := Nat.not_le.mp fun q => hin (Or.inr q)
  have h0 : ¬ i < 0 := fun q => hin (Or.inl q)
  have hat := hP.2 (a + q) _ ((fb_ix ha).trans he)
  obtain ⟨r', hr', cellV, g1, g2, g3, -⟩ := hP.2 (a + qk) _ ((fb_ix ha).trans hv)
  have hcls := (hK.1 ci r hc).2
  obtain ⟨kA, comp, k1, k2, k3, -⟩ := (hK.2 t0 _ ht).2
  have hcomp : comp = (fw_D E).1 ci := Option.some.inj (k3.symm.trans hcls.1)
  subst hcomp
  obtain ⟨kC, hkC, -⟩ := hcls.2
  refine W.aast hexec hb hat (fun q h => by cases h) (fun h => by cases h) k1 k2 rfl hkC ⟨h0, by show _ < (arrV _ _ _).slots.size; rw [arrV_size]; exact hlt⟩ g1 (fun q h => by rw [g3] at h; cases h) (by rw [g2]; exact hkC) (by rw [g2]; exact va_assign hcls) rfl rfl hdg fun H1 e z oq => ?_
  refine kk H1 _ ?_ (hS.put z oq (fb_zA E _))
  rw [← fb_sx ha]
  refine fb_upd hP z oq ?_
  show H1[_]? = some (vp_cell _ _)
  rw [e]
  rw [vp_cell_q, vp_cell_q, arrV_store]
  congr 2
  funext q
  by_cases hq : q = i.toNatClampNeg
  · subst hq
    simp [updV, va_up, va_rf]
  · simp [updV, va_up, hq]
end FBR
