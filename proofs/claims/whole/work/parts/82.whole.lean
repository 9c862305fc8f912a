/-! the law from its entry to its end, but for the mathematics (hM) -/
theorem fc_flags (l : Launch) (hflags : l.flags = flags0) : l.stackTraces = false := by
  unfold Launch.stackTraces
  rw [hflags]
  decide +kernel
theorem whole_of (hM : ∀ (xs : Nat → Int32) (L : Nat), L ≤ 2560 → f_law_L xs L 1000 fb_mu 0 0 0 = some ()) {p : Program} {e : Env} {s : State} {m : MethodId} {below : List Frame} {meth : Method} {c : Code} (l : Launch) (hflags : l.flags = flags0) {b L : Nat} {xs : Nat → Int32} (hL : L ≤ 2560) (C0 : lw_At p s m meth c b L xs) : W p l e room_1 s m #[Value.ref b] below meth c s.heap [] 0 0 (lw_Z below #[Value.ref b] s) (entryFrame m ([Value.ref b] : List Value).toArray 9) := by
  obtain ⟨hx, hb, hr, hml, hown, hts, hX, hbl, hlocks, hgv⟩ := C0
  have hg : ∀ w ∈ fc_G, w.before #[Value.ref b] s = true := flat_of_before _ hgv
  have hU := fc_U hts
  obtain ⟨D, cy, hKn⟩ := fc_known hts
  obtain ⟨x, hSt, hx0, hx1⟩ := fc_all hts hg D cy
  have hK := hKn x s.heap.size
  have hE : fw_ok (fb_E D x cy s.heap.size) := ⟨fun j f j' f' h h' e => fb_ad_inj h h' e, fun j f _ => Nat.le_add_right _ _, hx0, hx1⟩
  have hst := fc_flags l hflags
  have hN2 : fw_S2 s := fc_S2 hg
  refine law_entry (E := fb_E D x cy s.heap.size) hx hb hml hown hU hK hSt (fc_o5 hts) (fc_o4 hts) rfl (fun H locs ls hP hS hl => ?_)
  exact law_L (E := fb_E D x cy s.heap.size) ⟨hx, hb, hml, hown, hU, hK, hSt, hN2, hE, hst, hX, hbl, Nat.not_le.mpr hbl, rfl⟩ (fun H ls pc hdg => lw_ret (d0 := s.drawn) (Drawn.sameBut.refl s.drawn lw_cs) hx hb hr hlocks hdg) 1000 fb_mu 0 0 0 H locs ls 139 3410 (hM xs L hL) (fb_world hP) hS hl (by decide) (by decide)
