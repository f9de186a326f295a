/-! rows laid by my own program (wip/whole/gen) -/
theorem in_X4_undo_X0 : ∀ w ∈ wsX00, w ∈ wsX4_undo := by decide +kernel
theorem in_X4_undo_X4 : ∀ w ∈ wsX40, w ∈ wsX4_undo := by decide +kernel
set_option maxHeartbeats 4000000 in
set_option maxRecDepth 100000 in
theorem p_X4_undo (l : Launch) (G : zG) (ad : Nat → Nat) (na : Nat → Nat → Nat) (ma : Nat → Nat) (hd : zTd ad na ma) (π : Nat → Nat) (hπ : zPi π) (d : Nat) (hd6 : d ≤ 6) (fl : Nat → Int32) (T : Nat → zS3) (n : Nat) (hn12 : n ≤ 12) (g : Nat → Int32) (τ : zT) (hTn : ∀ j, 1 ≤ j → j < 10 → (T j).1 ≤ 12) : zMi l G (zAll ad na ma) yX4_undo wsX4_undo 3 64 [.ref (ma 0)] (zNA G ad n 12 g (zRest G ad na ma π d fl T) τ) (if d = 0 then -2 else nI (d - 1)) (if d = 0 then (zNA G ad n 12 g (zRest G ad na ma π d fl T) τ) else (zNA G ad ((T (π (d - 1))).1) 12 ((T (π (d - 1))).2.1) (zRest G ad na ma π (d - 1) fl T) (zCpG (T (π (d - 1))).2.2 (zIt (zCpS (T (π (d - 1))).2.2) (T (π (d - 1))).1 τ)))) := by
  refine z_met (cc := cX4_undo) (maxL := 1) (ret := (some .int)) (by decide) rfl (Nat.le_of_ble_eq_true rfl) ?_
  intro p e s m below meth c ls S hr hlk hnm hN hK hl
  have S : CallFix p m c cX4_undo 1 s _ wsX4_undo RX4 := S
  obtain ⟨hx, hb, hml, hown, hts⟩ := id S
  have hN12 : 12 ≤ 12 := Nat.le_refl 12
  have hA := zAp_top (G := G) hd π d fl T
  have hS : va_S (zAll ad na ma) s.heap s.heap [] := va_S.rf
  have hl : lv_has ls 1 [(0, .ref (ma 0))] := hl
  refine lv_aload_n hx hb dX4_undo_0 rfl (lv_at hl 0 rfl) ?_
  refine z_getF (v := .ref (ma 3)) hx hb hts hown in_X4_undo_X4 hK hN 4 (by decide) rfl (hts _ (List.mem_of_getElem? (i := 1) (by decide +kernel))) rfl dX4_undo_1 ?_
  refine z_getH (v := .int (nI d)) hx hb hts hown in_X4_undo_X0 hK hN 1 (by decide) rfl (hts _ (List.mem_of_getElem? (i := 2) (by decide +kernel))) rfl dX4_undo_4 ?_
  refine lv_if_ne (tgt := 13) hx hb dX4_undo_7 (by decide) (fun c_1 => ?_) (fun c_2 => ?_)
  · skip
    have c_1 : ¬ d = 0 := (not_congr (z_eqI (a := d) (b := 0) (by omega) (by omega))).mp c_1
    refine lv_aload_n hx hb dX4_undo_13 rfl (lv_at hl 0 rfl) ?_
    refine z_getF (v := .ref (ma 3)) hx hb hts hown in_X4_undo_X4 hK hN 4 (by decide) rfl (hts _ (List.mem_of_getElem? (i := 1) (by decide +kernel))) rfl dX4_undo_14 ?_
    refine lv_aload_n hx hb dX4_undo_17 rfl (lv_at hl 0 rfl) ?_
    refine z_getF (v := .ref (ad 0)) hx hb hts hown in_X4_undo_X4 hK hN 0 (by decide) rfl (hts _ (List.mem_of_getElem? (i := 3) (by decide +kernel))) rfl dX4_undo_18 ?_
    refine z_vv (As := [.ref (ad 0)]) (rest := []) (P2 := zNA G ad ((T (π (d - 1))).1) 12 ((T (π (d - 1))).2.1) (zRest G ad na ma π (d - 1) fl T) (zCpG (T (π (d - 1))).2.2 (zIt (zCpS (T (π (d - 1))).2.2) (T (π (d - 1))).1 τ))) S (h_X0_popInto l G ad na ma hd π hπ d hd6 fl T n hn12 g (by omega) (hTn _ (by have := hπ.1 (d - 1) (by omega); omega) (by have := hπ.1 (d - 1) (by omega); omega)) τ) (cwV 1 hts gX4_undo_X0_popInto rfl rfl rfl (by decide +kernel) ⟨Nat.le_of_ble_eq_true rfl, Nat.le_of_ble_eq_true rfl⟩) (z_recH hK hN) hN hK hS (fun _ _ h => h) (fun _ h => h) hl.1 rfl rfl (Nat.le_of_ble_eq_true rfl) dX4_undo_21 ⟨Nat.le_refl _, Nat.le_refl _⟩ (fun H locs hN hS _ => ?_)
    have hA := zAp_top (G := G) hd π (d - 1) fl T
    refine lv_aload_n hx hb dX4_undo_24 rfl (lv_at hl 0 rfl) ?_
    refine z_getF (v := .ref (ma 3)) hx hb hts hown in_X4_undo_X4 hK hN 4 (by decide) rfl (hts _ (List.mem_of_getElem? (i := 1) (by decide +kernel))) rfl dX4_undo_25 ?_
    refine z_getH (v := .int (nI (d - 1))) hx hb hts hown in_X4_undo_X0 hK hN 1 (by decide) rfl (hts _ (List.mem_of_getElem? (i := 2) (by decide +kernel))) rfl dX4_undo_28 ?_
    exact z_iretE hx hb hr hlk hK hS (zIr_n (by first | assumption | (simp only [c_1, eq_self, ne_eq, not_true_eq_false, not_false_eq_true, and_true, true_and, and_self, and_false, false_and, true_or, or_true, false_or, or_false, reduceIte]; done) | (simp [c_1]; done) | grind) (by first | rfl | (simp only [c_1, eq_self, ne_eq, not_true_eq_false, not_false_eq_true, and_true, true_and, and_self, and_false, false_and, true_or, or_true, false_or, or_false, reduceIte]; done) | (simp [c_1]; done))) (zIf_n (by first | assumption | (simp only [c_1, eq_self, ne_eq, not_true_eq_false, not_false_eq_true, and_true, true_and, and_self, and_false, false_and, true_or, or_true, false_or, or_false, reduceIte]; done) | (simp [c_1]; done) | grind) (by first | exact hN | (simpa only [c_1, eq_self, ne_eq, not_true_eq_false, not_false_eq_true, and_true, true_and, and_self, and_false, false_and, true_or, or_true, false_or, or_false, reduceIte] using hN) | (simpa [c_1] using hN))) dX4_undo_31
  · skip
    have c_2 : d = 0 :=  (z_eqI (a := d) (b := 0) (by omega) (by omega)).mp c_2
    refine lv_bipush (v := -2) hx hb dX4_undo_10 (by decide) ?_
    exact z_iretE hx hb hr hlk hK hS (zIr_t (by first | assumption | (simp only [c_2, eq_self, ne_eq, not_true_eq_false, not_false_eq_true, and_true, true_and, and_self, and_false, false_and, true_or, or_true, false_or, or_false, reduceIte]; done) | (simp [c_2]; done) | grind) (by first | rfl | (simp only [c_2, eq_self, ne_eq, not_true_eq_false, not_false_eq_true, and_true, true_and, and_self, and_false, false_and, true_or, or_true, false_or, or_false, reduceIte]; done) | (simp [c_2]; done))) (zIf_t (by first | assumption | (simp only [c_2, eq_self, ne_eq, not_true_eq_false, not_false_eq_true, and_true, true_and, and_self, and_false, false_and, true_or, or_true, false_or, or_false, reduceIte]; done) | (simp [c_2]; done) | grind) (by first | exact hN | (simpa only [c_2, eq_self, ne_eq, not_true_eq_false, not_false_eq_true, and_true, true_and, and_self, and_false, false_and, true_or, or_true, false_or, or_false, reduceIte] using hN) | (simpa [c_2] using hN))) dX4_undo_12

