/-! the first memory, the addresses, and the world as the frame has it -/
def fb_off (j f : Nat) : Nat := if f < 9 then (if j < 3 then 1 + 9 * j + f else 30 + 9 * (j - 3) + f) else if f = 9 then 114 + j else if f = 10 then 0 else if f < 13 then 17 + f else if f < 16 then 98 + f else 110 + f
def fb_mu : fw_M := fun _ f => match f with
  | 7 => upd (upd (fun _ => 0) 0 80) 1 80
  | 9 => fun i => if i = 0 then 5 else 0
  | 10 => fun i => if i = 7 ∨ i = 8 then -1 else 0
  | 18 => fun i => if i = 13 ∨ i = 14 then -1 else 0
  | 19 => upd (upd (fun _ => 0) 2 80) 3 80
  | _ => fun _ => 0
def fb_E (D : va_G) (x : Nat → Nat → Nat) (cy : Nat → ClassId) (z : Nat) : fw_E := (D, fun j f => z + fb_off j f, x, cy, z)
def fb_inv (q : Nat) : Nat × Nat := if q = 0 then (0, 10) else if q < 28 then ((q - 1) / 9, (q - 1) % 9) else if q < 30 then (0, q - 17) else if q < 111 then (3 + (q - 30) / 9, (q - 30) % 9) else if q < 114 then (0, q - 98) else if q < 126 then (q - 114, 9) else (0, q - 110)
theorem fb_inv_s : ∀ j, j < 12 → ∀ f, f < 10 → fb_inv (fb_off j f) = (j, f) := by decide +kernel
theorem fb_inv_o : ∀ f, f < 29 → 10 ≤ f → fb_inv (fb_off 0 f) = (0, f) := by decide +kernel
theorem fb_inv_V {j f : Nat} (h : fw_V j f) : fb_inv (fb_off j f) = (j, f) := by
  rcases h with ⟨h1, h2⟩ | ⟨h1, h2, rfl⟩
  · exact fb_inv_s j h2 f h1
  · exact fb_inv_o f h2 h1
theorem fb_ad_inj {D : va_G} {x : Nat → Nat → Nat} {cy : Nat → ClassId} {z j f j' f' : Nat} (h : fw_V j f) (h' : fw_V j' f') (he : fw_ad (fb_E D x cy z) j f = fw_ad (fb_E D x cy z) j' f') : j = j' ∧ f = f' := by
  have h1 : z + fb_off j f = z + fb_off j' f' := he
  have h2 : fb_off j f = fb_off j' f' := by omega
  have h3 := fb_inv_V h
  rw [h2, fb_inv_V h'] at h3
  cases h3
  exact ⟨rfl, rfl⟩
def fb_seg (E : fw_E) (a : Nat) (L : List va_E) (H : Heap) : Prop := ∀ (k : Nat) (e : va_E), L[k]? = some e → va_at (fw_D E) vwCl (fw_z E + (a + k), e) H
theorem fb_seg_of {E : fw_E} {L : List va_E} {H : Heap} (h : fb_P E L H) : fb_seg E 0 L H := fun k e hk => by rw [Nat.zero_add]; exact h.2 k e hk
theorem fb_seg_l {E : fw_E} {a : Nat} {L M : List va_E} {H : Heap} (h : fb_seg E a (L ++ M) H) : fb_seg E a L H := fun k e hk => h k e (by rw [List.getElem?_append_left (List.getElem?_eq_some_iff.mp hk).1]; exact hk)
theorem fb_seg_r {E : fw_E} {a b : Nat} {L M : List va_E} {H : Heap} (h : fb_seg E a (L ++ M) H) (hb : a + L.length = b) : fb_seg E b M H := fun k e hk => by
  subst hb
  rw [Nat.add_assoc]
  exact h (L.length + k) e (by rw [List.getElem?_append_right (Nat.le_add_right _ _), Nat.add_sub_cancel_left]; exact hk)
theorem fb_seg_h {E : fw_E} {a : Nat} {x : va_E} {M : List va_E} {H : Heap} (h : fb_seg E a (x :: M) H) : va_at (fw_D E) vwCl (fw_z E + a, x) H := h 0 x rfl
theorem fb_seg_t {E : fw_E} {a b : Nat} {x : va_E} {M : List va_E} {H : Heap} (h : fb_seg E a (x :: M) H) (hb : a + 1 = b) : fb_seg E b M H := fun k e hk => by
  subst hb
  rw [Nat.add_assoc, Nat.add_comm 1 k]
  exact h (k + 1) e hk
theorem fb_seg_ss {E : fw_E} {a b : Nat} {H : Heap} : ∀ n : Nat, fb_seg E b (fb_ss E a n) H → ∀ i, i < n → fb_seg E (b + 9 * i) (fb_st E (a + (2 + 9 * i))) H := by
  intro n
  have hlen : ∀ n : Nat, (fb_ss E a n).length = 9 * n := by
    intro n
    have h := fb_hw_len (E := E) (a := a) (i := n)
    have h2 : (fb_hw E a n).length = (fb_ss E a n).length + 1 + 1 := rfl
    omega
  induction n with
  | zero => intro _ i hi; omega
  | succ n ih =>
    intro h i hi
    have h1 : fb_seg E b (fb_ss E a n ++ fb_st E (a + (2 + 9 * n))) H := h
    by_cases hin : i < n
    · exact ih (fb_seg_l h1) i hin
    · have he : i = n := by omega
      subst he
      exact fb_seg_r h1 (by rw [hlen])
theorem fb_seg_cc {E : fw_E} {b : Nat} {H : Heap} : ∀ n : Nat, fb_seg E b (fb_cc E n) H → ∀ i, i < n → va_at (fw_D E) vwCl (fw_z E + (b + i), .inr (2, [.ref (fw_x E 0 5), .int 0, .int 0, .int 0])) H := by
  intro n
  have hlen : ∀ n : Nat, (fb_cc E n).length = n := by
    intro n
    have h := fb_tw_len (E := E) (a := 0) (i := n)
    have h2 : (fb_tw E 0 n).length = (fb_cc E n).length + 1 + 1 + 1 := rfl
    omega
  induction n with
  | zero => intro _ i hi; omega
  | succ n ih =>
    intro h i hi
    have h1 : fb_seg E b (fb_cc E n ++ fb_cm E 0) H := h
    by_cases hin : i < n
    · exact ih (fb_seg_l h1) i hin
    · have he : i = n := by omega
      subst he
      exact fb_seg_h (fb_seg_r h1 (by rw [hlen]))
theorem fb_qq {D : va_G} {cl : List vw_C} {a n : Nat} {cA : ClassId} {f g : Nat → Option Nat} {H : Heap} (h : ∀ j, j < n → f j = g j) (ha : va_at D cl (a, .inl (cA, n, .inr (.inr (.inr (.inr f))))) H) : va_at D cl (a, .inl (cA, n, .inr (.inr (.inr (.inr g))))) H := by
  have h1 : H[a]? = some (vp_cell cA (n, .inr (.inr (.inr (.inr f))))) := ha
  show H[a]? = some (vp_cell cA (n, .inr (.inr (.inr (.inr g)))))
  rw [h1, vp_cell_q, vp_cell_q]
  exact congrArg some (fw_arrV (fun j hj => by rw [h j hj]))
theorem fb_off_s {j f : Nat} (h : f < 9) : fb_off j f = fb_off j 0 + f := by
  have h0 : fb_off j 0 = (if j < 3 then 1 + 9 * j + 0 else 30 + 9 * (j - 3) + 0) := rfl
  rw [h0]
  unfold fb_off
  rw [if_pos h]
  by_cases hj : j < 3
  · rw [if_pos hj, if_pos hj]; rfl
  · rw [if_neg hj, if_neg hj]; rfl
section FBF
variable {D : va_G} {x : Nat → Nat → Nat} {cy : Nat → ClassId} {z : Nat} {H : Heap}
theorem fb_state {j a : Nat} (ha : fb_off j 0 = a) (h : fb_seg (fb_E D x cy z) a (fb_st (fb_E D x cy z) a) H) : ∀ f, f < 9 → va_at D vwCl (z + fb_off j f, fw_c (fb_E D x cy z) 0 0 j f (fb_mu j f)) H := by
  have hk : ∀ k, k < 9 → fb_off j k = a + k := fun k h => by rw [fb_off_s h, ha]
  have hs : ∀ k, k < 9 → fw_ad (fb_E D x cy z) j k = z + (a + k) := fun k h => congrArg (z + ·) (hk k h)
  intro f hf
  rw [hk f hf]
  rcases (show f = 0 ∨ f = 1 ∨ f = 2 ∨ f = 3 ∨ f = 4 ∨ f = 5 ∨ f = 6 ∨ f = 7 ∨ f = 8 by omega) with rfl | rfl | rfl | rfl | rfl | rfl | rfl | rfl | rfl
  · have h0 := h 0 _ rfl
    have e : fw_c (fb_E D x cy z) 0 0 j 0 (fb_mu j 0) = .inr (6, [.ref (fw_ad (fb_E D x cy z) j 1), .ref (fw_ad (fb_E D x cy z) j 2), .ref (fw_ad (fb_E D x cy z) j 3), .ref (fw_ad (fb_E D x cy z) j 4), .ref (fw_ad (fb_E D x cy z) j 5), .ref (fw_ad (fb_E D x cy z) j 6), .int 0, .ref (fw_ad (fb_E D x cy z) j 7), .ref (fw_ad (fb_E D x cy z) j 8), .int 0]) := rfl
    rw [e, hs 1 (by decide), hs 2 (by decide), hs 3 (by decide), hs 4 (by decide), hs 5 (by decide), hs 6 (by decide), hs 7 (by decide), hs 8 (by decide)]
    exact h0
  · exact h 1 _ rfl
  · exact h 2 _ rfl
  · exact h 3 _ rfl
  · exact h 4 _ rfl
  · exact h 5 _ rfl
  · exact h 6 _ rfl
  · exact h 7 _ rfl
  · exact h 8 _ rfl
theorem fb_world (hP : fb_P (fb_E D x cy z) (fb_wl (fb_E D x cy z)) H) : fw_P (fb_E D x cy z) 0 0 fb_mu H := by
  generalize hE : fb_E D x cy z = E at hP
  have g0 : fb_seg E 0 (((fb_sv E 0 ++ fb_md E 128) ++ [.inl (fw_cy E 6, 1, .inr (.inl (fun _ => 0)))]) ++ [.inl (fw_cy E 7, 1, .inr (.inr (.inr (.inl (fun _ => 0)))))]) H := fb_seg_of hP
  have lss : ∀ n : Nat, (fb_ss E (0 + 28) n).length = 9 * n := by
    intro n
    have h := fb_hw_len (E := E) (a := 0 + 28) (i := n)
    have h2 : (fb_hw E (0 + 28) n).length = (fb_ss E (0 + 28) n).length + 1 + 1 := rfl
    omega
  have lcc : (fb_cc E 12).length = 12 := by
    have h := fb_tw_len (E := E) (a := 0) (i := 12)
    have h2 : (fb_tw E 0 12).length = (fb_cc E 12).length + 1 + 1 + 1 := rfl
    omega
  have lhs : (fb_hs E (0 + 28)).length = 83 := fb_hw_len
  have lct : (fb_ct E (0 + 111)).length = 15 := fb_tw_len
  have lsv : (fb_sv E 0).length = 128 := by
    show ((((((fb_st E (0 + 1) ++ fb_st E (0 + 10)) ++ fb_st E (0 + 19)) ++ fb_hs E (0 + 28)) ++ fb_ct E (0 + 111)) ++ fb_op E (0 + 126))).length + 1 = 128
    rw [List.length_append, List.length_append, List.length_append, List.length_append, List.length_append, lhs, lct]
    rfl
  have lmd : (fb_md E 128).length = 9 := rfl
  have q1 := fb_seg_l g0
  have q2 := fb_seg_l q1
  have hdd := fb_seg_h (fb_seg_r (b := 138) g0 (by rw [List.length_append, List.length_append, lsv, lmd]; rfl))
  have hll := fb_seg_h (fb_seg_r (b := 137) q1 (by rw [List.length_append, lsv, lmd]))
  have hmd := fb_seg_r (b := 128) q2 (by rw [lsv])
  have hsv := fb_seg_l q2
  have hsv0 := fb_seg_h hsv
  have t1 := fb_seg_t (b := 1) hsv rfl
  have hop := fb_seg_r (b := 126) t1 (by rw [List.length_append, List.length_append, List.length_append, List.length_append, lhs, lct]; rfl)
  have t2 := fb_seg_l t1
  have hct := fb_seg_r (b := 111) t2 (by rw [List.length_append, List.length_append, List.length_append, lhs]; rfl)
  have t3 := fb_seg_l t2
  have hhs := fb_seg_r (b := 28) t3 rfl
  have t4 := fb_seg_l t3
  have h19 := fb_seg_r (b := 19) t4 rfl
  have h10 := fb_seg_r (b := 10) (fb_seg_l t4) rfl
  have h01 := fb_seg_l (fb_seg_l t4)
  have hrow := fb_seg_ss 9 (fb_seg_t (b := 30) (fb_seg_t (b := 29) hhs rfl) rfl)
  have hcmd := fb_seg_cc 12 (fb_seg_t (b := 114) (fb_seg_t (b := 113) (fb_seg_t (b := 112) hct rfl) rfl) rfl)
  subst hE
  intro j f hV
  rcases hV with ⟨h1, h2⟩ | ⟨h1, h2, rfl⟩
  · by_cases hf : f = 9
    · subst hf
      have h3 := hcmd j h2
      show va_at D vwCl (z + fb_off j 9, _) H
      rw [show fb_off j 9 = 114 + j from rfl]
      exact h3
    · have h3 : f < 9 := by omega
      by_cases hj : j < 3
      · rcases (show j = 0 ∨ j = 1 ∨ j = 2 by omega) with rfl | rfl | rfl
        · exact fb_state (a := 0 + 1) rfl h01 f h3
        · exact fb_state (a := 0 + 10) rfl h10 f h3
        · exact fb_state (a := 0 + 19) rfl h19 f h3
      · have h4 := hrow (j - 3) (by omega)
        have e1 : 0 + 28 + (2 + 9 * (j - 3)) = 30 + 9 * (j - 3) := by omega
        rw [e1] at h4
        refine fb_state (a := 30 + 9 * (j - 3)) ?_ h4 f h3
        unfold fb_off
        rw [if_pos (by decide), if_neg hj]
        rfl
  · rcases (show f = 10 ∨ f = 11 ∨ f = 12 ∨ f = 13 ∨ f = 14 ∨ f = 15 ∨ f = 16 ∨ f = 17 ∨ f = 27 ∨ f = 28 ∨ (18 ≤ f ∧ f < 27) by omega) with rfl | rfl | rfl | rfl | rfl | rfl | rfl | rfl | rfl | rfl | ⟨h5, h6⟩
    · exact hsv0
    · exact fb_seg_h hhs
    · refine fb_qq (fun j hj => ?_) (fb_seg_h (fb_seg_t (b := 29) hhs rfl))
      rw [if_pos hj]
      refine congrArg some ?_
      show z + (0 + 28 + (2 + 9 * j)) = z + fb_off (3 + j) 0
      unfold fb_off
      rw [if_pos (by decide), if_neg (by omega)]
      omega
    · exact fb_seg_h hct
    · exact fb_seg_h (fb_seg_t (b := 112) hct rfl)
    · refine fb_qq (fun j hj => ?_) (fb_seg_h (fb_seg_t (b := 113) (fb_seg_t (b := 112) hct rfl) rfl))
      rw [if_pos hj]
      refine congrArg some ?_
      show z + (0 + 111 + (3 + 1 * j)) = z + fb_off j 9
      rw [show fb_off j 9 = 114 + j from rfl]
      omega
    · exact fb_seg_h hop
    · exact fb_seg_h (fb_seg_t (b := 127) hop rfl)
    · exact hll
    · exact hdd
    · rcases (show f = 18 ∨ f = 19 ∨ f = 20 ∨ f = 21 ∨ f = 22 ∨ f = 23 ∨ f = 24 ∨ f = 25 ∨ f = 26 by omega) with rfl | rfl | rfl | rfl | rfl | rfl | rfl | rfl | rfl
      · exact hmd 0 _ rfl
      · exact hmd 1 _ rfl
      · exact hmd 2 _ rfl
      · exact hmd 3 _ rfl
      · exact hmd 4 _ rfl
      · exact hmd 5 _ rfl
      · exact hmd 6 _ rfl
      · exact hmd 7 _ rfl
      · exact hmd 8 _ rfl
end FBF
