/-! rows laid by my own program (wip/whole/gen) -/
set_option maxHeartbeats 4000000 in
theorem c_X4_inRange (l : Launch) (G : zG) (A : Nat → Prop) (P : Heap → Prop) (x a b : Int32) : zMi l G A yX4_inRange wsX4_inRange 0 0 [.int x, .int a, .int b] P (zBi (¬ x < a ∧ ¬ b < x)) P := by
  refine z_met (cc := cX4_inRange) (maxL := 3) (ret := (some .boolean)) (by decide) rfl (Nat.le_of_ble_eq_true rfl) ?_
  intro p e s m below meth c ls S hr hlk hnm hM hK hl
  have S : CallFix p m c cX4_inRange 3 s _ wsX4_inRange RX4 := S
  obtain ⟨hx, hb, hml, hown, hts⟩ := id S
  have hS : va_S A s.heap s.heap [] := va_S.rf
  have hl : lv_has ls 3 [(0, .int x), (1, .int a), (2, .int b)] := hl
  refine lv_iload_n hx hb dX4_inRange_0 rfl (lv_at hl 0 rfl) ?_
  refine lv_iload_n hx hb dX4_inRange_1 rfl (lv_at hl 1 rfl) ?_
  refine lv_icmp_lt (tgt := 14) hx hb dX4_inRange_2 (by decide) (fun c_1 => ?_) (fun c_2 => ?_)
  · skip
    refine lv_iconst (v := 0) hx hb dX4_inRange_14 (by decide) ?_
    refine z_top (x2 := zBi (¬ x < a ∧ ¬ b < x)) (by first | with_reducible rfl | (simp only [zBi, c_1, eq_self, ne_eq, not_true_eq_false, not_false_eq_true, and_true, true_and, and_self, and_false, false_and, true_or, or_true, false_or, or_false, reduceIte]; done) | (simp [zBi, c_1]; done) | rfl | (simp_all [zBi]; done)) ?_
    exact z_zret hx hb hr hlk zBi_nar hK hS (hM) dX4_inRange_15
  · skip
    refine lv_iload_n hx hb dX4_inRange_5 rfl (lv_at hl 0 rfl) ?_
    refine lv_iload_n hx hb dX4_inRange_6 rfl (lv_at hl 2 rfl) ?_
    refine lv_icmp_gt (tgt := 14) hx hb dX4_inRange_7 (by decide) (fun c_3 => ?_) (fun c_4 => ?_)
    · skip
      refine lv_iconst (v := 0) hx hb dX4_inRange_14 (by decide) ?_
      refine z_top (x2 := zBi (¬ x < a ∧ ¬ b < x)) (by first | with_reducible rfl | (simp only [zBi, c_2, c_3, eq_self, ne_eq, not_true_eq_false, not_false_eq_true, and_true, true_and, and_self, and_false, false_and, true_or, or_true, false_or, or_false, reduceIte]; done) | (simp [zBi, c_2, c_3]; done) | rfl | (simp_all [zBi]; done)) ?_
      exact z_zret hx hb hr hlk zBi_nar hK hS (hM) dX4_inRange_15
    · skip
      refine lv_iconst (v := 1) hx hb dX4_inRange_10 (by decide) ?_
      refine lv_goto (tgt := 15) hx hb dX4_inRange_11 (by decide) ?_
      refine z_top (x2 := zBi (¬ x < a ∧ ¬ b < x)) (by first | with_reducible rfl | (simp only [zBi, c_2, c_4, eq_self, ne_eq, not_true_eq_false, not_false_eq_true, and_true, true_and, and_self, and_false, false_and, true_or, or_true, false_or, or_false, reduceIte]; done) | (simp [zBi, c_2, c_4]; done) | rfl | (simp_all [zBi]; done)) ?_
      exact z_zret hx hb hr hlk zBi_nar hK hS (hM) dX4_inRange_15

theorem in_X4_roundNumber_X1 : ∀ w ∈ wsX10, w ∈ wsX4_roundNumber := by decide +kernel
theorem in_X4_roundNumber_X4 : ∀ w ∈ wsX40, w ∈ wsX4_roundNumber := by decide +kernel
set_option maxHeartbeats 4000000 in
set_option maxRecDepth 100000 in
theorem p_X4_roundNumber (l : Launch) (G : zG) (ad : Nat → Nat) (na : Nat → Nat → Nat) (ma : Nat → Nat) (hd : zTd ad na ma) (π : Nat → Nat) (hπ : zPi π) (d : Nat) (hd6 : d ≤ 6) (fl : Nat → Int32) (T : Nat → zS3) (n : Nat) (hn12 : n ≤ 12) (g : Nat → Int32) (τ : zT) : zMi l G (zAll ad na ma) yX4_roundNumber wsX4_roundNumber 0 0 [.ref (ma 0)] (zNA G ad n 12 g (zRest G ad na ma π d fl T) τ) (τ 11 10) (zNA G ad n 12 g (zRest G ad na ma π d fl T) τ) := by
  refine z_met (cc := cX4_roundNumber) (maxL := 1) (ret := (some .int)) (by decide) rfl (Nat.le_of_ble_eq_true rfl) ?_
  intro p e s m below meth c ls S hr hlk hnm hN hK hl
  have S : CallFix p m c cX4_roundNumber 1 s _ wsX4_roundNumber RX4 := S
  obtain ⟨hx, hb, hml, hown, hts⟩ := id S
  have hN12 : 12 ≤ 12 := Nat.le_refl 12
  have hA := zAp_top (G := G) hd π d fl T
  have hS : va_S (zAll ad na ma) s.heap s.heap [] := va_S.rf
  have hl : lv_has ls 1 [(0, .ref (ma 0))] := hl
  refine lv_aload_n hx hb dX4_roundNumber_0 rfl (lv_at hl 0 rfl) ?_
  refine z_getF (v := .ref (ad 0)) hx hb hts hown in_X4_roundNumber_X4 hK hN 0 (by decide) rfl (hts _ (List.mem_of_getElem? (i := 1) (by decide +kernel))) rfl dX4_roundNumber_1 ?_
  refine z_getO (v := .int (τ 11 10)) hx hb hts hown in_X4_roundNumber_X1 hK hN 6 (by decide) rfl (hts _ (List.mem_of_getElem? (i := 2) (by decide +kernel))) rfl dX4_roundNumber_4 ?_
  exact z_iretE hx hb hr hlk hK hS (by first | rfl | (simp only [eq_self, ne_eq, not_true_eq_false, not_false_eq_true, and_true, true_and, and_self, and_false, false_and, true_or, or_true, false_or, or_false, reduceIte]; done) | (simp []; done)) (by first | exact hN | (simpa only [eq_self, ne_eq, not_true_eq_false, not_false_eq_true, and_true, true_and, and_self, and_false, false_and, true_or, or_true, false_or, or_false, reduceIte] using hN) | (simpa [] using hN)) dX4_roundNumber_7

theorem in_X4_headCount_X1 : ∀ w ∈ wsX10, w ∈ wsX4_headCount := by decide +kernel
theorem in_X4_headCount_X4 : ∀ w ∈ wsX40, w ∈ wsX4_headCount := by decide +kernel
set_option maxHeartbeats 4000000 in
set_option maxRecDepth 100000 in
theorem p_X4_headCount (l : Launch) (G : zG) (ad : Nat → Nat) (na : Nat → Nat → Nat) (ma : Nat → Nat) (hd : zTd ad na ma) (π : Nat → Nat) (hπ : zPi π) (d : Nat) (hd6 : d ≤ 6) (fl : Nat → Int32) (T : Nat → zS3) (n : Nat) (hn12 : n ≤ 12) (g : Nat → Int32) (τ : zT) : zMi l G (zAll ad na ma) yX4_headCount wsX4_headCount 0 0 [.ref (ma 0)] (zNA G ad n 12 g (zRest G ad na ma π d fl T) τ) (τ 11 11) (zNA G ad n 12 g (zRest G ad na ma π d fl T) τ) := by
  refine z_met (cc := cX4_headCount) (maxL := 1) (ret := (some .int)) (by decide) rfl (Nat.le_of_ble_eq_true rfl) ?_
  intro p e s m below meth c ls S hr hlk hnm hN hK hl
  have S : CallFix p m c cX4_headCount 1 s _ wsX4_headCount RX4 := S
  obtain ⟨hx, hb, hml, hown, hts⟩ := id S
  have hN12 : 12 ≤ 12 := Nat.le_refl 12
  have hA := zAp_top (G := G) hd π d fl T
  have hS : va_S (zAll ad na ma) s.heap s.heap [] := va_S.rf
  have hl : lv_has ls 1 [(0, .ref (ma 0))] := hl
  refine lv_aload_n hx hb dX4_headCount_0 rfl (lv_at hl 0 rfl) ?_
  refine z_getF (v := .ref (ad 0)) hx hb hts hown in_X4_headCount_X4 hK hN 0 (by decide) rfl (hts _ (List.mem_of_getElem? (i := 1) (by decide +kernel))) rfl dX4_headCount_1 ?_
  refine z_getO (v := .int (τ 11 11)) hx hb hts hown in_X4_headCount_X1 hK hN 7 (by decide) rfl (hts _ (List.mem_of_getElem? (i := 2) (by decide +kernel))) rfl dX4_headCount_4 ?_
  exact z_iretE hx hb hr hlk hK hS (by first | rfl | (simp only [eq_self, ne_eq, not_true_eq_false, not_false_eq_true, and_true, true_and, and_self, and_false, false_and, true_or, or_true, false_or, or_false, reduceIte]; done) | (simp []; done)) (by first | exact hN | (simpa only [eq_self, ne_eq, not_true_eq_false, not_false_eq_true, and_true, true_and, and_self, and_false, false_and, true_or, or_true, false_or, or_false, reduceIte] using hN) | (simpa [] using hN)) dX4_headCount_7

theorem in_X4_lastDelivered_X1 : ∀ w ∈ wsX10, w ∈ wsX4_lastDelivered := by decide +kernel
theorem in_X4_lastDelivered_X4 : ∀ w ∈ wsX40, w ∈ wsX4_lastDelivered := by decide +kernel
set_option maxHeartbeats 4000000 in
set_option maxRecDepth 100000 in
theorem p_X4_lastDelivered (l : Launch) (G : zG) (ad : Nat → Nat) (na : Nat → Nat → Nat) (ma : Nat → Nat) (hd : zTd ad na ma) (π : Nat → Nat) (hπ : zPi π) (d : Nat) (hd6 : d ≤ 6) (fl : Nat → Int32) (T : Nat → zS3) (n : Nat) (hn12 : n ≤ 12) (g : Nat → Int32) (τ : zT) : zMi l G (zAll ad na ma) yX4_lastDelivered wsX4_lastDelivered 0 0 [.ref (ma 0)] (zNA G ad n 12 g (zRest G ad na ma π d fl T) τ) (τ 11 12) (zNA G ad n 12 g (zRest G ad na ma π d fl T) τ) := by
  refine z_met (cc := cX4_lastDelivered) (maxL := 1) (ret := (some .int)) (by decide) rfl (Nat.le_of_ble_eq_true rfl) ?_
  intro p e s m below meth c ls S hr hlk hnm hN hK hl
  have S : CallFix p m c cX4_lastDelivered 1 s _ wsX4_lastDelivered RX4 := S
  obtain ⟨hx, hb, hml, hown, hts⟩ := id S
  have hN12 : 12 ≤ 12 := Nat.le_refl 12
  have hA := zAp_top (G := G) hd π d fl T
  have hS : va_S (zAll ad na ma) s.heap s.heap [] := va_S.rf
  have hl : lv_has ls 1 [(0, .ref (ma 0))] := hl
  refine lv_aload_n hx hb dX4_lastDelivered_0 rfl (lv_at hl 0 rfl) ?_
  refine z_getF (v := .ref (ad 0)) hx hb hts hown in_X4_lastDelivered_X4 hK hN 0 (by decide) rfl (hts _ (List.mem_of_getElem? (i := 1) (by decide +kernel))) rfl dX4_lastDelivered_1 ?_
  refine z_getO (v := .int (τ 11 12)) hx hb hts hown in_X4_lastDelivered_X1 hK hN 8 (by decide) rfl (hts _ (List.mem_of_getElem? (i := 2) (by decide +kernel))) rfl dX4_lastDelivered_4 ?_
  exact z_iretE hx hb hr hlk hK hS (by first | rfl | (simp only [eq_self, ne_eq, not_true_eq_false, not_false_eq_true, and_true, true_and, and_self, and_false, false_and, true_or, or_true, false_or, or_false, reduceIte]; done) | (simp []; done)) (by first | exact hN | (simpa only [eq_self, ne_eq, not_true_eq_false, not_false_eq_true, and_true, true_and, and_self, and_false, false_and, true_or, or_true, false_or, or_false, reduceIte] using hN) | (simpa [] using hN)) dX4_lastDelivered_7

theorem in_X4_deliveredTotal_X1 : ∀ w ∈ wsX10, w ∈ wsX4_deliveredTotal := by decide +kernel
theorem in_X4_deliveredTotal_X4 : ∀ w ∈ wsX40, w ∈ wsX4_deliveredTotal := by decide +kernel
set_option maxHeartbeats 4000000 in
set_option maxRecDepth 100000 in
theorem p_X4_deliveredTotal (l : Launch) (G : zG) (ad : Nat → Nat) (na : Nat → Nat → Nat) (ma : Nat → Nat) (hd : zTd ad na ma) (π : Nat → Nat) (hπ : zPi π) (d : Nat) (hd6 : d ≤ 6) (fl : Nat → Int32) (T : Nat → zS3) (n : Nat) (hn12 : n ≤ 12) (g : Nat → Int32) (τ : zT) : zMi l G (zAll ad na ma) yX4_deliveredTotal wsX4_deliveredTotal 0 0 [.ref (ma 0)] (zNA G ad n 12 g (zRest G ad na ma π d fl T) τ) (τ 11 13) (zNA G ad n 12 g (zRest G ad na ma π d fl T) τ) := by
  refine z_met (cc := cX4_deliveredTotal) (maxL := 1) (ret := (some .int)) (by decide) rfl (Nat.le_of_ble_eq_true rfl) ?_
  intro p e s m below meth c ls S hr hlk hnm hN hK hl
  have S : CallFix p m c cX4_deliveredTotal 1 s _ wsX4_deliveredTotal RX4 := S
  obtain ⟨hx, hb, hml, hown, hts⟩ := id S
  have hN12 : 12 ≤ 12 := Nat.le_refl 12
  have hA := zAp_top (G := G) hd π d fl T
  have hS : va_S (zAll ad na ma) s.heap s.heap [] := va_S.rf
  have hl : lv_has ls 1 [(0, .ref (ma 0))] := hl
  refine lv_aload_n hx hb dX4_deliveredTotal_0 rfl (lv_at hl 0 rfl) ?_
  refine z_getF (v := .ref (ad 0)) hx hb hts hown in_X4_deliveredTotal_X4 hK hN 0 (by decide) rfl (hts _ (List.mem_of_getElem? (i := 1) (by decide +kernel))) rfl dX4_deliveredTotal_1 ?_
  refine z_getO (v := .int (τ 11 13)) hx hb hts hown in_X4_deliveredTotal_X1 hK hN 9 (by decide) rfl (hts _ (List.mem_of_getElem? (i := 2) (by decide +kernel))) rfl dX4_deliveredTotal_4 ?_
  exact z_iretE hx hb hr hlk hK hS (by first | rfl | (simp only [eq_self, ne_eq, not_true_eq_false, not_false_eq_true, and_true, true_and, and_self, and_false, false_and, true_or, or_true, false_or, or_false, reduceIte]; done) | (simp []; done)) (by first | exact hN | (simpa only [eq_self, ne_eq, not_true_eq_false, not_false_eq_true, and_true, true_and, and_self, and_false, false_and, true_or, or_true, false_or, or_false, reduceIte] using hN) | (simpa [] using hN)) dX4_deliveredTotal_7

theorem in_X4_energyPaid_X1 : ∀ w ∈ wsX10, w ∈ wsX4_energyPaid := by decide +kernel
theorem in_X4_energyPaid_X4 : ∀ w ∈ wsX40, w ∈ wsX4_energyPaid := by decide +kernel
set_option maxHeartbeats 4000000 in
set_option maxRecDepth 100000 in
theorem p_X4_energyPaid (l : Launch) (G : zG) (ad : Nat → Nat) (na : Nat → Nat → Nat) (ma : Nat → Nat) (hd : zTd ad na ma) (π : Nat → Nat) (hπ : zPi π) (d : Nat) (hd6 : d ≤ 6) (fl : Nat → Int32) (T : Nat → zS3) (n : Nat) (hn12 : n ≤ 12) (g : Nat → Int32) (τ : zT) : zMi l G (zAll ad na ma) yX4_energyPaid wsX4_energyPaid 0 0 [.ref (ma 0)] (zNA G ad n 12 g (zRest G ad na ma π d fl T) τ) (τ 11 14) (zNA G ad n 12 g (zRest G ad na ma π d fl T) τ) := by
  refine z_met (cc := cX4_energyPaid) (maxL := 1) (ret := (some .int)) (by decide) rfl (Nat.le_of_ble_eq_true rfl) ?_
  intro p e s m below meth c ls S hr hlk hnm hN hK hl
  have S : CallFix p m c cX4_energyPaid 1 s _ wsX4_energyPaid RX4 := S
  obtain ⟨hx, hb, hml, hown, hts⟩ := id S
  have hN12 : 12 ≤ 12 := Nat.le_refl 12
  have hA := zAp_top (G := G) hd π d fl T
  have hS : va_S (zAll ad na ma) s.heap s.heap [] := va_S.rf
  have hl : lv_has ls 1 [(0, .ref (ma 0))] := hl
  refine lv_aload_n hx hb dX4_energyPaid_0 rfl (lv_at hl 0 rfl) ?_
  refine z_getF (v := .ref (ad 0)) hx hb hts hown in_X4_energyPaid_X4 hK hN 0 (by decide) rfl (hts _ (List.mem_of_getElem? (i := 1) (by decide +kernel))) rfl dX4_energyPaid_1 ?_
  refine z_getO (v := .int (τ 11 14)) hx hb hts hown in_X4_energyPaid_X1 hK hN 10 (by decide) rfl (hts _ (List.mem_of_getElem? (i := 2) (by decide +kernel))) rfl dX4_energyPaid_4 ?_
  exact z_iretE hx hb hr hlk hK hS (by first | rfl | (simp only [eq_self, ne_eq, not_true_eq_false, not_false_eq_true, and_true, true_and, and_self, and_false, false_and, true_or, or_true, false_or, or_false, reduceIte]; done) | (simp []; done)) (by first | exact hN | (simpa only [eq_self, ne_eq, not_true_eq_false, not_false_eq_true, and_true, true_and, and_self, and_false, false_and, true_or, or_true, false_or, or_false, reduceIte] using hN) | (simpa [] using hN)) dX4_energyPaid_7

theorem in_X4_aliveCount_X4 : ∀ w ∈ wsX40, w ∈ wsX4_aliveCount := by decide +kernel
set_option maxHeartbeats 4000000 in
set_option maxRecDepth 100000 in
theorem p_X4_aliveCount (l : Launch) (G : zG) (ad : Nat → Nat) (na : Nat → Nat → Nat) (ma : Nat → Nat) (hd : zTd ad na ma) (π : Nat → Nat) (hπ : zPi π) (d : Nat) (hd6 : d ≤ 6) (fl : Nat → Int32) (T : Nat → zS3) (n : Nat) (hn12 : n ≤ 12) (g : Nat → Int32) (τ : zT) : zMi l G (zAll ad na ma) yX4_aliveCount wsX4_aliveCount 1 22 [.ref (ma 0)] (zNA G ad n 12 g (zRest G ad na ma π d fl T) τ) (zCa n τ) (zNA G ad n 12 g (zRest G ad na ma π d fl T) τ) := by
  refine z_met (cc := cX4_aliveCount) (maxL := 1) (ret := (some .int)) (by decide) rfl (Nat.le_of_ble_eq_true rfl) ?_
  intro p e s m below meth c ls S hr hlk hnm hN hK hl
  have S : CallFix p m c cX4_aliveCount 1 s _ wsX4_aliveCount RX4 := S
  obtain ⟨hx, hb, hml, hown, hts⟩ := id S
  have hN12 : 12 ≤ 12 := Nat.le_refl 12
  have hA := zAp_top (G := G) hd π d fl T
  have hS : va_S (zAll ad na ma) s.heap s.heap [] := va_S.rf
  have hl : lv_has ls 1 [(0, .ref (ma 0))] := hl
  refine lv_aload_n hx hb dX4_aliveCount_0 rfl (lv_at hl 0 rfl) ?_
  refine z_getF (v := .ref (ad 0)) hx hb hts hown in_X4_aliveCount_X4 hK hN 0 (by decide) rfl (hts _ (List.mem_of_getElem? (i := 1) (by decide +kernel))) rfl dX4_aliveCount_1 ?_
  refine z_vi (As := []) (rest := []) (P2 := zNA G ad n 12 g (zRest G ad na ma π d fl T) τ) (r := zCa n τ) S (c_X1_countAlive l G (zAll ad na ma) ad n 12 g (zRest G ad na ma π d fl T) hA (by omega) hN12  τ ) (cwV 0 hts gX4_aliveCount_X1_countAlive rfl rfl rfl (by decide +kernel) ⟨Nat.le_of_ble_eq_true rfl, Nat.le_of_ble_eq_true rfl⟩) (z_recN hK hN) hN hK hS (fun _ _ h => h) (fun _ h => h) hl.1 rfl rfl (Nat.le_of_ble_eq_true rfl) dX4_aliveCount_4 ⟨Nat.le_refl _, Nat.le_refl _⟩ (fun H locs hN hS _ => ?_)
  exact z_iretE hx hb hr hlk hK hS (by first | rfl | (simp only [eq_self, ne_eq, not_true_eq_false, not_false_eq_true, and_true, true_and, and_self, and_false, false_and, true_or, or_true, false_or, or_false, reduceIte]; done) | (simp []; done)) (by first | exact hN | (simpa only [eq_self, ne_eq, not_true_eq_false, not_false_eq_true, and_true, true_and, and_self, and_false, false_and, true_or, or_true, false_or, or_false, reduceIte] using hN) | (simpa [] using hN)) dX4_aliveCount_7

theorem in_X4_isAlive_X1 : ∀ w ∈ wsX10, w ∈ wsX4_isAlive := by decide +kernel
theorem in_X4_isAlive_X3 : ∀ w ∈ wsX30, w ∈ wsX4_isAlive := by decide +kernel
theorem in_X4_isAlive_X4 : ∀ w ∈ wsX40, w ∈ wsX4_isAlive := by decide +kernel
set_option maxHeartbeats 4000000 in
set_option maxRecDepth 100000 in
theorem p_X4_isAlive (l : Launch) (G : zG) (ad : Nat → Nat) (na : Nat → Nat → Nat) (ma : Nat → Nat) (hd : zTd ad na ma) (π : Nat → Nat) (hπ : zPi π) (d : Nat) (hd6 : d ≤ 6) (fl : Nat → Int32) (T : Nat → zS3) (n : Nat) (hn12 : n ≤ 12) (g : Nat → Int32) (τ : zT) (x : Int32) : zMi l G (zAll ad na ma) yX4_isAlive wsX4_isAlive 1 21 [.ref (ma 0), .int x] (zNA G ad n 12 g (zRest G ad na ma π d fl T) τ) (if ¬ (¬ x < 0 ∧ x < nI n) then -1 else zBi (τ 3 x.toNatClampNeg = 1)) (if ¬ (¬ x < 0 ∧ x < nI n) then (zNA G ad n 12 g (zRest G ad na ma π d fl T) τ) else (zNA G ad n 12 g (zRest G ad na ma π d fl T) τ)) := by
  refine z_met (cc := cX4_isAlive) (maxL := 2) (ret := (some .int)) (by decide) rfl (Nat.le_of_ble_eq_true rfl) ?_
  intro p e s m below meth c ls S hr hlk hnm hN hK hl
  have S : CallFix p m c cX4_isAlive 2 s _ wsX4_isAlive RX4 := S
  obtain ⟨hx, hb, hml, hown, hts⟩ := id S
  have hN12 : 12 ≤ 12 := Nat.le_refl 12
  have hA := zAp_top (G := G) hd π d fl T
  have hS : va_S (zAll ad na ma) s.heap s.heap [] := va_S.rf
  have hl : lv_has ls 2 [(0, .ref (ma 0)), (1, .int x)] := hl
  refine lv_aload_n hx hb dX4_isAlive_0 rfl (lv_at hl 0 rfl) ?_
  refine z_getF (v := .ref (ad 0)) hx hb hts hown in_X4_isAlive_X4 hK hN 0 (by decide) rfl (hts _ (List.mem_of_getElem? (i := 1) (by decide +kernel))) rfl dX4_isAlive_1 ?_
  refine lv_iload_n hx hb dX4_isAlive_4 rfl (lv_at hl 1 rfl) ?_
  refine z_vi (As := [.int x]) (rest := []) (P2 := zNA G ad n 12 g (zRest G ad na ma π d fl T) τ) (r := zBi (¬ x < 0 ∧ x < nI n)) S (c_X1_has l G (zAll ad na ma) ad n 12 g (zRest G ad na ma π d fl T) hA (by omega) hN12  τ x) (cwV 1 hts gX4_isAlive_X1_has rfl rfl rfl (by decide +kernel) ⟨Nat.le_of_ble_eq_true rfl, Nat.le_of_ble_eq_true rfl⟩) (z_recN hK hN) hN hK hS (fun _ _ h => h) (fun _ h => h) hl.1 rfl rfl (Nat.le_of_ble_eq_true rfl) dX4_isAlive_5 ⟨Nat.le_refl _, Nat.le_refl _⟩ (fun H locs hN hS _ => ?_)
  refine lv_if_ne (tgt := 13) hx hb dX4_isAlive_8 (by decide) (fun c_1 => ?_) (fun c_2 => ?_)
  · skip
    have c_1 := zBi_n0.mp c_1
    obtain ⟨k, hk, rfl⟩ := zIn_of (by omega) c_1
    have hc_k : (nI k).toNatClampNeg = k := nI_clamp (by omega)
    refine lv_aload_n hx hb dX4_isAlive_13 rfl (lv_at hl 0 rfl) ?_
    refine z_getF (v := .ref (ad 0)) hx hb hts hown in_X4_isAlive_X4 hK hN 0 (by decide) rfl (hts _ (List.mem_of_getElem? (i := 1) (by decide +kernel))) rfl dX4_isAlive_14 ?_
    refine z_getO (v := .ref (ad 1)) hx hb hts hown in_X4_isAlive_X1 hK hN 0 (by decide) rfl (hts _ (List.mem_of_getElem? (i := 2) (by decide +kernel))) rfl dX4_isAlive_17 ?_
    refine lv_iload_n hx hb dX4_isAlive_20 rfl (lv_at hl 1 rfl) ?_
    refine z_aald (i := k) hx hb hK hN rfl (by omega) dX4_isAlive_21 ?_
    refine z_getS (v := .int (zBi (τ 3 k = 1))) hx hb hts hown in_X4_isAlive_X3 hK hN12 hN (by omega) 3 (by decide) rfl (hts _ (List.mem_of_getElem? (i := 3) (by decide +kernel))) rfl dX4_isAlive_22 ?_
    refine lv_if_eq (tgt := 32) hx hb dX4_isAlive_25 (by decide) (fun c_3 => ?_) (fun c_4 => ?_)
    · skip
      have c_3 := zBi_0.mp c_3
      refine lv_iconst (v := 0) hx hb dX4_isAlive_32 (by decide) ?_
      exact z_iretE hx hb hr hlk hK hS (zIr_n (by first | assumption | (simp only [zBi, c_1, hc_k, c_3, eq_self, ne_eq, not_true_eq_false, not_false_eq_true, and_true, true_and, and_self, and_false, false_and, true_or, or_true, false_or, or_false, reduceIte]; done) | (simp [zBi, c_1, hc_k, c_3]; done) | grind) (by first | rfl | (simp only [zBi, c_1, hc_k, c_3, eq_self, ne_eq, not_true_eq_false, not_false_eq_true, and_true, true_and, and_self, and_false, false_and, true_or, or_true, false_or, or_false, reduceIte]; done) | (simp [zBi, c_1, hc_k, c_3]; done))) (zIf_n (by first | assumption | (simp only [zBi, c_1, hc_k, c_3, eq_self, ne_eq, not_true_eq_false, not_false_eq_true, and_true, true_and, and_self, and_false, false_and, true_or, or_true, false_or, or_false, reduceIte]; done) | (simp [zBi, c_1, hc_k, c_3]; done) | grind) (by first | exact hN | (simpa only [zBi, c_1, hc_k, c_3, eq_self, ne_eq, not_true_eq_false, not_false_eq_true, and_true, true_and, and_self, and_false, false_and, true_or, or_true, false_or, or_false, reduceIte] using hN) | (simpa [zBi, c_1, hc_k, c_3] using hN))) dX4_isAlive_33
    · skip
      have c_4 := zBi_n0.mp c_4
      refine lv_iconst (v := 1) hx hb dX4_isAlive_28 (by decide) ?_
      refine lv_goto (tgt := 33) hx hb dX4_isAlive_29 (by decide) ?_
      exact z_iretE hx hb hr hlk hK hS (zIr_n (by first | assumption | (simp only [zBi, c_1, hc_k, c_4, eq_self, ne_eq, not_true_eq_false, not_false_eq_true, and_true, true_and, and_self, and_false, false_and, true_or, or_true, false_or, or_false, reduceIte]; done) | (simp [zBi, c_1, hc_k, c_4]; done) | grind) (by first | rfl | (simp only [zBi, c_1, hc_k, c_4, eq_self, ne_eq, not_true_eq_false, not_false_eq_true, and_true, true_and, and_self, and_false, false_and, true_or, or_true, false_or, or_false, reduceIte]; done) | (simp [zBi, c_1, hc_k, c_4]; done))) (zIf_n (by first | assumption | (simp only [zBi, c_1, hc_k, c_4, eq_self, ne_eq, not_true_eq_false, not_false_eq_true, and_true, true_and, and_self, and_false, false_and, true_or, or_true, false_or, or_false, reduceIte]; done) | (simp [zBi, c_1, hc_k, c_4]; done) | grind) (by first | exact hN | (simpa only [zBi, c_1, hc_k, c_4, eq_self, ne_eq, not_true_eq_false, not_false_eq_true, and_true, true_and, and_self, and_false, false_and, true_or, or_true, false_or, or_false, reduceIte] using hN) | (simpa [zBi, c_1, hc_k, c_4] using hN))) dX4_isAlive_33
  · skip
    have c_2 := zBi_0.mp c_2
    refine lv_iconst (v := -1) hx hb dX4_isAlive_11 (by decide) ?_
    exact z_iretE hx hb hr hlk hK hS (zIr_t (by first | assumption | (simp only [zBi, c_2, eq_self, ne_eq, not_true_eq_false, not_false_eq_true, and_true, true_and, and_self, and_false, false_and, true_or, or_true, false_or, or_false, reduceIte]; done) | (simp [zBi, c_2]; done) | grind) (by first | rfl | (simp only [zBi, c_2, eq_self, ne_eq, not_true_eq_false, not_false_eq_true, and_true, true_and, and_self, and_false, false_and, true_or, or_true, false_or, or_false, reduceIte]; done) | (simp [zBi, c_2]; done))) (zIf_t (by first | assumption | (simp only [zBi, c_2, eq_self, ne_eq, not_true_eq_false, not_false_eq_true, and_true, true_and, and_self, and_false, false_and, true_or, or_true, false_or, or_false, reduceIte]; done) | (simp [zBi, c_2]; done) | grind) (by first | exact hN | (simpa only [zBi, c_2, eq_self, ne_eq, not_true_eq_false, not_false_eq_true, and_true, true_and, and_self, and_false, false_and, true_or, or_true, false_or, or_false, reduceIte] using hN) | (simpa [zBi, c_2] using hN))) dX4_isAlive_12

theorem in_X4_battery_X1 : ∀ w ∈ wsX10, w ∈ wsX4_battery := by decide +kernel
theorem in_X4_battery_X3 : ∀ w ∈ wsX30, w ∈ wsX4_battery := by decide +kernel
theorem in_X4_battery_X4 : ∀ w ∈ wsX40, w ∈ wsX4_battery := by decide +kernel
set_option maxHeartbeats 4000000 in
set_option maxRecDepth 100000 in
theorem p_X4_battery (l : Launch) (G : zG) (ad : Nat → Nat) (na : Nat → Nat → Nat) (ma : Nat → Nat) (hd : zTd ad na ma) (π : Nat → Nat) (hπ : zPi π) (d : Nat) (hd6 : d ≤ 6) (fl : Nat → Int32) (T : Nat → zS3) (n : Nat) (hn12 : n ≤ 12) (g : Nat → Int32) (τ : zT) (x : Int32) : zMi l G (zAll ad na ma) yX4_battery wsX4_battery 1 21 [.ref (ma 0), .int x] (zNA G ad n 12 g (zRest G ad na ma π d fl T) τ) (if ¬ (¬ x < 0 ∧ x < nI n) then -1 else τ 2 x.toNatClampNeg) (if ¬ (¬ x < 0 ∧ x < nI n) then (zNA G ad n 12 g (zRest G ad na ma π d fl T) τ) else (zNA G ad n 12 g (zRest G ad na ma π d fl T) τ)) := by
  refine z_met (cc := cX4_battery) (maxL := 2) (ret := (some .int)) (by decide) rfl (Nat.le_of_ble_eq_true rfl) ?_
  intro p e s m below meth c ls S hr hlk hnm hN hK hl
  have S : CallFix p m c cX4_battery 2 s _ wsX4_battery RX4 := S
  obtain ⟨hx, hb, hml, hown, hts⟩ := id S
  have hN12 : 12 ≤ 12 := Nat.le_refl 12
  have hA := zAp_top (G := G) hd π d fl T
  have hS : va_S (zAll ad na ma) s.heap s.heap [] := va_S.rf
  have hl : lv_has ls 2 [(0, .ref (ma 0)), (1, .int x)] := hl
  refine lv_aload_n hx hb dX4_battery_0 rfl (lv_at hl 0 rfl) ?_
  refine z_getF (v := .ref (ad 0)) hx hb hts hown in_X4_battery_X4 hK hN 0 (by decide) rfl (hts _ (List.mem_of_getElem? (i := 1) (by decide +kernel))) rfl dX4_battery_1 ?_
  refine lv_iload_n hx hb dX4_battery_4 rfl (lv_at hl 1 rfl) ?_
  refine z_vi (As := [.int x]) (rest := []) (P2 := zNA G ad n 12 g (zRest G ad na ma π d fl T) τ) (r := zBi (¬ x < 0 ∧ x < nI n)) S (c_X1_has l G (zAll ad na ma) ad n 12 g (zRest G ad na ma π d fl T) hA (by omega) hN12  τ x) (cwV 1 hts gX4_battery_X1_has rfl rfl rfl (by decide +kernel) ⟨Nat.le_of_ble_eq_true rfl, Nat.le_of_ble_eq_true rfl⟩) (z_recN hK hN) hN hK hS (fun _ _ h => h) (fun _ h => h) hl.1 rfl rfl (Nat.le_of_ble_eq_true rfl) dX4_battery_5 ⟨Nat.le_refl _, Nat.le_refl _⟩ (fun H locs hN hS _ => ?_)
  refine lv_if_ne (tgt := 13) hx hb dX4_battery_8 (by decide) (fun c_1 => ?_) (fun c_2 => ?_)
  · skip
    have c_1 := zBi_n0.mp c_1
    obtain ⟨k, hk, rfl⟩ := zIn_of (by omega) c_1
    have hc_k : (nI k).toNatClampNeg = k := nI_clamp (by omega)
    refine lv_aload_n hx hb dX4_battery_13 rfl (lv_at hl 0 rfl) ?_
    refine z_getF (v := .ref (ad 0)) hx hb hts hown in_X4_battery_X4 hK hN 0 (by decide) rfl (hts _ (List.mem_of_getElem? (i := 1) (by decide +kernel))) rfl dX4_battery_14 ?_
    refine z_getO (v := .ref (ad 1)) hx hb hts hown in_X4_battery_X1 hK hN 0 (by decide) rfl (hts _ (List.mem_of_getElem? (i := 2) (by decide +kernel))) rfl dX4_battery_17 ?_
    refine lv_iload_n hx hb dX4_battery_20 rfl (lv_at hl 1 rfl) ?_
    refine z_aald (i := k) hx hb hK hN rfl (by omega) dX4_battery_21 ?_
    refine z_getS (v := .int (τ 2 k)) hx hb hts hown in_X4_battery_X3 hK hN12 hN (by omega) 2 (by decide) rfl (hts _ (List.mem_of_getElem? (i := 3) (by decide +kernel))) rfl dX4_battery_22 ?_
    exact z_iretE hx hb hr hlk hK hS (zIr_n (by first | assumption | (simp only [c_1, hc_k, eq_self, ne_eq, not_true_eq_false, not_false_eq_true, and_true, true_and, and_self, and_false, false_and, true_or, or_true, false_or, or_false, reduceIte]; done) | (simp [c_1, hc_k]; done) | grind) (by first | rfl | (simp only [c_1, hc_k, eq_self, ne_eq, not_true_eq_false, not_false_eq_true, and_true, true_and, and_self, and_false, false_and, true_or, or_true, false_or, or_false, reduceIte]; done) | (simp [c_1, hc_k]; done))) (zIf_n (by first | assumption | (simp only [c_1, hc_k, eq_self, ne_eq, not_true_eq_false, not_false_eq_true, and_true, true_and, and_self, and_false, false_and, true_or, or_true, false_or, or_false, reduceIte]; done) | (simp [c_1, hc_k]; done) | grind) (by first | exact hN | (simpa only [c_1, hc_k, eq_self, ne_eq, not_true_eq_false, not_false_eq_true, and_true, true_and, and_self, and_false, false_and, true_or, or_true, false_or, or_false, reduceIte] using hN) | (simpa [c_1, hc_k] using hN))) dX4_battery_25
  · skip
    have c_2 := zBi_0.mp c_2
    refine lv_iconst (v := -1) hx hb dX4_battery_11 (by decide) ?_
    exact z_iretE hx hb hr hlk hK hS (zIr_t (by first | assumption | (simp only [c_2, eq_self, ne_eq, not_true_eq_false, not_false_eq_true, and_true, true_and, and_self, and_false, false_and, true_or, or_true, false_or, or_false, reduceIte]; done) | (simp [c_2]; done) | grind) (by first | rfl | (simp only [c_2, eq_self, ne_eq, not_true_eq_false, not_false_eq_true, and_true, true_and, and_self, and_false, false_and, true_or, or_true, false_or, or_false, reduceIte]; done) | (simp [c_2]; done))) (zIf_t (by first | assumption | (simp only [c_2, eq_self, ne_eq, not_true_eq_false, not_false_eq_true, and_true, true_and, and_self, and_false, false_and, true_or, or_true, false_or, or_false, reduceIte]; done) | (simp [c_2]; done) | grind) (by first | exact hN | (simpa only [c_2, eq_self, ne_eq, not_true_eq_false, not_false_eq_true, and_true, true_and, and_self, and_false, false_and, true_or, or_true, false_or, or_false, reduceIte] using hN) | (simpa [c_2] using hN))) dX4_battery_12

theorem in_X4_deathRound_X1 : ∀ w ∈ wsX10, w ∈ wsX4_deathRound := by decide +kernel
theorem in_X4_deathRound_X3 : ∀ w ∈ wsX30, w ∈ wsX4_deathRound := by decide +kernel
theorem in_X4_deathRound_X4 : ∀ w ∈ wsX40, w ∈ wsX4_deathRound := by decide +kernel
set_option maxHeartbeats 4000000 in
set_option maxRecDepth 100000 in
theorem p_X4_deathRound (l : Launch) (G : zG) (ad : Nat → Nat) (na : Nat → Nat → Nat) (ma : Nat → Nat) (hd : zTd ad na ma) (π : Nat → Nat) (hπ : zPi π) (d : Nat) (hd6 : d ≤ 6) (fl : Nat → Int32) (T : Nat → zS3) (n : Nat) (hn12 : n ≤ 12) (g : Nat → Int32) (τ : zT) (x : Int32) : zMi l G (zAll ad na ma) yX4_deathRound wsX4_deathRound 1 21 [.ref (ma 0), .int x] (zNA G ad n 12 g (zRest G ad na ma π d fl T) τ) (if ¬ (¬ x < 0 ∧ x < nI n) then -1 else τ 6 x.toNatClampNeg) (if ¬ (¬ x < 0 ∧ x < nI n) then (zNA G ad n 12 g (zRest G ad na ma π d fl T) τ) else (zNA G ad n 12 g (zRest G ad na ma π d fl T) τ)) := by
  refine z_met (cc := cX4_deathRound) (maxL := 2) (ret := (some .int)) (by decide) rfl (Nat.le_of_ble_eq_true rfl) ?_
  intro p e s m below meth c ls S hr hlk hnm hN hK hl
  have S : CallFix p m c cX4_deathRound 2 s _ wsX4_deathRound RX4 := S
  obtain ⟨hx, hb, hml, hown, hts⟩ := id S
  have hN12 : 12 ≤ 12 := Nat.le_refl 12
  have hA := zAp_top (G := G) hd π d fl T
  have hS : va_S (zAll ad na ma) s.heap s.heap [] := va_S.rf
  have hl : lv_has ls 2 [(0, .ref (ma 0)), (1, .int x)] := hl
  refine lv_aload_n hx hb dX4_deathRound_0 rfl (lv_at hl 0 rfl) ?_
  refine z_getF (v := .ref (ad 0)) hx hb hts hown in_X4_deathRound_X4 hK hN 0 (by decide) rfl (hts _ (List.mem_of_getElem? (i := 1) (by decide +kernel))) rfl dX4_deathRound_1 ?_
  refine lv_iload_n hx hb dX4_deathRound_4 rfl (lv_at hl 1 rfl) ?_
  refine z_vi (As := [.int x]) (rest := []) (P2 := zNA G ad n 12 g (zRest G ad na ma π d fl T) τ) (r := zBi (¬ x < 0 ∧ x < nI n)) S (c_X1_has l G (zAll ad na ma) ad n 12 g (zRest G ad na ma π d fl T) hA (by omega) hN12  τ x) (cwV 1 hts gX4_deathRound_X1_has rfl rfl rfl (by decide +kernel) ⟨Nat.le_of_ble_eq_true rfl, Nat.le_of_ble_eq_true rfl⟩) (z_recN hK hN) hN hK hS (fun _ _ h => h) (fun _ h => h) hl.1 rfl rfl (Nat.le_of_ble_eq_true rfl) dX4_deathRound_5 ⟨Nat.le_refl _, Nat.le_refl _⟩ (fun H locs hN hS _ => ?_)
  refine lv_if_ne (tgt := 13) hx hb dX4_deathRound_8 (by decide) (fun c_1 => ?_) (fun c_2 => ?_)
  · skip
    have c_1 := zBi_n0.mp c_1
    obtain ⟨k, hk, rfl⟩ := zIn_of (by omega) c_1
    have hc_k : (nI k).toNatClampNeg = k := nI_clamp (by omega)
    refine lv_aload_n hx hb dX4_deathRound_13 rfl (lv_at hl 0 rfl) ?_
    refine z_getF (v := .ref (ad 0)) hx hb hts hown in_X4_deathRound_X4 hK hN 0 (by decide) rfl (hts _ (List.mem_of_getElem? (i := 1) (by decide +kernel))) rfl dX4_deathRound_14 ?_
    refine z_getO (v := .ref (ad 1)) hx hb hts hown in_X4_deathRound_X1 hK hN 0 (by decide) rfl (hts _ (List.mem_of_getElem? (i := 2) (by decide +kernel))) rfl dX4_deathRound_17 ?_
    refine lv_iload_n hx hb dX4_deathRound_20 rfl (lv_at hl 1 rfl) ?_
    refine z_aald (i := k) hx hb hK hN rfl (by omega) dX4_deathRound_21 ?_
    refine z_getS (v := .int (τ 6 k)) hx hb hts hown in_X4_deathRound_X3 hK hN12 hN (by omega) 6 (by decide) rfl (hts _ (List.mem_of_getElem? (i := 3) (by decide +kernel))) rfl dX4_deathRound_22 ?_
    exact z_iretE hx hb hr hlk hK hS (zIr_n (by first | assumption | (simp only [c_1, hc_k, eq_self, ne_eq, not_true_eq_false, not_false_eq_true, and_true, true_and, and_self, and_false, false_and, true_or, or_true, false_or, or_false, reduceIte]; done) | (simp [c_1, hc_k]; done) | grind) (by first | rfl | (simp only [c_1, hc_k, eq_self, ne_eq, not_true_eq_false, not_false_eq_true, and_true, true_and, and_self, and_false, false_and, true_or, or_true, false_or, or_false, reduceIte]; done) | (simp [c_1, hc_k]; done))) (zIf_n (by first | assumption | (simp only [c_1, hc_k, eq_self, ne_eq, not_true_eq_false, not_false_eq_true, and_true, true_and, and_self, and_false, false_and, true_or, or_true, false_or, or_false, reduceIte]; done) | (simp [c_1, hc_k]; done) | grind) (by first | exact hN | (simpa only [c_1, hc_k, eq_self, ne_eq, not_true_eq_false, not_false_eq_true, and_true, true_and, and_self, and_false, false_and, true_or, or_true, false_or, or_false, reduceIte] using hN) | (simpa [c_1, hc_k] using hN))) dX4_deathRound_25
  · skip
    have c_2 := zBi_0.mp c_2
    refine lv_iconst (v := -1) hx hb dX4_deathRound_11 (by decide) ?_
    exact z_iretE hx hb hr hlk hK hS (zIr_t (by first | assumption | (simp only [c_2, eq_self, ne_eq, not_true_eq_false, not_false_eq_true, and_true, true_and, and_self, and_false, false_and, true_or, or_true, false_or, or_false, reduceIte]; done) | (simp [c_2]; done) | grind) (by first | rfl | (simp only [c_2, eq_self, ne_eq, not_true_eq_false, not_false_eq_true, and_true, true_and, and_self, and_false, false_and, true_or, or_true, false_or, or_false, reduceIte]; done) | (simp [c_2]; done))) (zIf_t (by first | assumption | (simp only [c_2, eq_self, ne_eq, not_true_eq_false, not_false_eq_true, and_true, true_and, and_self, and_false, false_and, true_or, or_true, false_or, or_false, reduceIte]; done) | (simp [c_2]; done) | grind) (by first | exact hN | (simpa only [c_2, eq_self, ne_eq, not_true_eq_false, not_false_eq_true, and_true, true_and, and_self, and_false, false_and, true_or, or_true, false_or, or_false, reduceIte] using hN) | (simpa [c_2] using hN))) dX4_deathRound_12

theorem in_X4_headOf_X1 : ∀ w ∈ wsX10, w ∈ wsX4_headOf := by decide +kernel
theorem in_X4_headOf_X3 : ∀ w ∈ wsX30, w ∈ wsX4_headOf := by decide +kernel
theorem in_X4_headOf_X4 : ∀ w ∈ wsX40, w ∈ wsX4_headOf := by decide +kernel
set_option maxHeartbeats 4000000 in
set_option maxRecDepth 100000 in
theorem p_X4_headOf (l : Launch) (G : zG) (ad : Nat → Nat) (na : Nat → Nat → Nat) (ma : Nat → Nat) (hd : zTd ad na ma) (π : Nat → Nat) (hπ : zPi π) (d : Nat) (hd6 : d ≤ 6) (fl : Nat → Int32) (T : Nat → zS3) (n : Nat) (hn12 : n ≤ 12) (g : Nat → Int32) (τ : zT) (x : Int32) : zMi l G (zAll ad na ma) yX4_headOf wsX4_headOf 1 21 [.ref (ma 0), .int x] (zNA G ad n 12 g (zRest G ad na ma π d fl T) τ) (if ¬ (¬ x < 0 ∧ x < nI n) then -1 else τ 7 x.toNatClampNeg) (if ¬ (¬ x < 0 ∧ x < nI n) then (zNA G ad n 12 g (zRest G ad na ma π d fl T) τ) else (zNA G ad n 12 g (zRest G ad na ma π d fl T) τ)) := by
  refine z_met (cc := cX4_headOf) (maxL := 2) (ret := (some .int)) (by decide) rfl (Nat.le_of_ble_eq_true rfl) ?_
  intro p e s m below meth c ls S hr hlk hnm hN hK hl
  have S : CallFix p m c cX4_headOf 2 s _ wsX4_headOf RX4 := S
  obtain ⟨hx, hb, hml, hown, hts⟩ := id S
  have hN12 : 12 ≤ 12 := Nat.le_refl 12
  have hA := zAp_top (G := G) hd π d fl T
  have hS : va_S (zAll ad na ma) s.heap s.heap [] := va_S.rf
  have hl : lv_has ls 2 [(0, .ref (ma 0)), (1, .int x)] := hl
  refine lv_aload_n hx hb dX4_headOf_0 rfl (lv_at hl 0 rfl) ?_
  refine z_getF (v := .ref (ad 0)) hx hb hts hown in_X4_headOf_X4 hK hN 0 (by decide) rfl (hts _ (List.mem_of_getElem? (i := 1) (by decide +kernel))) rfl dX4_headOf_1 ?_
  refine lv_iload_n hx hb dX4_headOf_4 rfl (lv_at hl 1 rfl) ?_
  refine z_vi (As := [.int x]) (rest := []) (P2 := zNA G ad n 12 g (zRest G ad na ma π d fl T) τ) (r := zBi (¬ x < 0 ∧ x < nI n)) S (c_X1_has l G (zAll ad na ma) ad n 12 g (zRest G ad na ma π d fl T) hA (by omega) hN12  τ x) (cwV 1 hts gX4_headOf_X1_has rfl rfl rfl (by decide +kernel) ⟨Nat.le_of_ble_eq_true rfl, Nat.le_of_ble_eq_true rfl⟩) (z_recN hK hN) hN hK hS (fun _ _ h => h) (fun _ h => h) hl.1 rfl rfl (Nat.le_of_ble_eq_true rfl) dX4_headOf_5 ⟨Nat.le_refl _, Nat.le_refl _⟩ (fun H locs hN hS _ => ?_)
  refine lv_if_ne (tgt := 13) hx hb dX4_headOf_8 (by decide) (fun c_1 => ?_) (fun c_2 => ?_)
  · skip
    have c_1 := zBi_n0.mp c_1
    obtain ⟨k, hk, rfl⟩ := zIn_of (by omega) c_1
    have hc_k : (nI k).toNatClampNeg = k := nI_clamp (by omega)
    refine lv_aload_n hx hb dX4_headOf_13 rfl (lv_at hl 0 rfl) ?_
    refine z_getF (v := .ref (ad 0)) hx hb hts hown in_X4_headOf_X4 hK hN 0 (by decide) rfl (hts _ (List.mem_of_getElem? (i := 1) (by decide +kernel))) rfl dX4_headOf_14 ?_
    refine z_getO (v := .ref (ad 1)) hx hb hts hown in_X4_headOf_X1 hK hN 0 (by decide) rfl (hts _ (List.mem_of_getElem? (i := 2) (by decide +kernel))) rfl dX4_headOf_17 ?_
    refine lv_iload_n hx hb dX4_headOf_20 rfl (lv_at hl 1 rfl) ?_
    refine z_aald (i := k) hx hb hK hN rfl (by omega) dX4_headOf_21 ?_
    refine z_getS (v := .int (τ 7 k)) hx hb hts hown in_X4_headOf_X3 hK hN12 hN (by omega) 7 (by decide) rfl (hts _ (List.mem_of_getElem? (i := 3) (by decide +kernel))) rfl dX4_headOf_22 ?_
    exact z_iretE hx hb hr hlk hK hS (zIr_n (by first | assumption | (simp only [c_1, hc_k, eq_self, ne_eq, not_true_eq_false, not_false_eq_true, and_true, true_and, and_self, and_false, false_and, true_or, or_true, false_or, or_false, reduceIte]; done) | (simp [c_1, hc_k]; done) | grind) (by first | rfl | (simp only [c_1, hc_k, eq_self, ne_eq, not_true_eq_false, not_false_eq_true, and_true, true_and, and_self, and_false, false_and, true_or, or_true, false_or, or_false, reduceIte]; done) | (simp [c_1, hc_k]; done))) (zIf_n (by first | assumption | (simp only [c_1, hc_k, eq_self, ne_eq, not_true_eq_false, not_false_eq_true, and_true, true_and, and_self, and_false, false_and, true_or, or_true, false_or, or_false, reduceIte]; done) | (simp [c_1, hc_k]; done) | grind) (by first | exact hN | (simpa only [c_1, hc_k, eq_self, ne_eq, not_true_eq_false, not_false_eq_true, and_true, true_and, and_self, and_false, false_and, true_or, or_true, false_or, or_false, reduceIte] using hN) | (simpa [c_1, hc_k] using hN))) dX4_headOf_25
  · skip
    have c_2 := zBi_0.mp c_2
    refine lv_iconst (v := -1) hx hb dX4_headOf_11 (by decide) ?_
    exact z_iretE hx hb hr hlk hK hS (zIr_t (by first | assumption | (simp only [c_2, eq_self, ne_eq, not_true_eq_false, not_false_eq_true, and_true, true_and, and_self, and_false, false_and, true_or, or_true, false_or, or_false, reduceIte]; done) | (simp [c_2]; done) | grind) (by first | rfl | (simp only [c_2, eq_self, ne_eq, not_true_eq_false, not_false_eq_true, and_true, true_and, and_self, and_false, false_and, true_or, or_true, false_or, or_false, reduceIte]; done) | (simp [c_2]; done))) (zIf_t (by first | assumption | (simp only [c_2, eq_self, ne_eq, not_true_eq_false, not_false_eq_true, and_true, true_and, and_self, and_false, false_and, true_or, or_true, false_or, or_false, reduceIte]; done) | (simp [c_2]; done) | grind) (by first | exact hN | (simpa only [c_2, eq_self, ne_eq, not_true_eq_false, not_false_eq_true, and_true, true_and, and_self, and_false, false_and, true_or, or_true, false_or, or_false, reduceIte] using hN) | (simpa [c_2] using hN))) dX4_headOf_12

theorem in_X4_slotOf_X1 : ∀ w ∈ wsX10, w ∈ wsX4_slotOf := by decide +kernel
theorem in_X4_slotOf_X3 : ∀ w ∈ wsX30, w ∈ wsX4_slotOf := by decide +kernel
theorem in_X4_slotOf_X4 : ∀ w ∈ wsX40, w ∈ wsX4_slotOf := by decide +kernel
set_option maxHeartbeats 4000000 in
set_option maxRecDepth 100000 in
theorem p_X4_slotOf (l : Launch) (G : zG) (ad : Nat → Nat) (na : Nat → Nat → Nat) (ma : Nat → Nat) (hd : zTd ad na ma) (π : Nat → Nat) (hπ : zPi π) (d : Nat) (hd6 : d ≤ 6) (fl : Nat → Int32) (T : Nat → zS3) (n : Nat) (hn12 : n ≤ 12) (g : Nat → Int32) (τ : zT) (x : Int32) : zMi l G (zAll ad na ma) yX4_slotOf wsX4_slotOf 1 21 [.ref (ma 0), .int x] (zNA G ad n 12 g (zRest G ad na ma π d fl T) τ) (if ¬ (¬ x < 0 ∧ x < nI n) then -1 else τ 8 x.toNatClampNeg) (if ¬ (¬ x < 0 ∧ x < nI n) then (zNA G ad n 12 g (zRest G ad na ma π d fl T) τ) else (zNA G ad n 12 g (zRest G ad na ma π d fl T) τ)) := by
  refine z_met (cc := cX4_slotOf) (maxL := 2) (ret := (some .int)) (by decide) rfl (Nat.le_of_ble_eq_true rfl) ?_
  intro p e s m below meth c ls S hr hlk hnm hN hK hl
  have S : CallFix p m c cX4_slotOf 2 s _ wsX4_slotOf RX4 := S
  obtain ⟨hx, hb, hml, hown, hts⟩ := id S
  have hN12 : 12 ≤ 12 := Nat.le_refl 12
  have hA := zAp_top (G := G) hd π d fl T
  have hS : va_S (zAll ad na ma) s.heap s.heap [] := va_S.rf
  have hl : lv_has ls 2 [(0, .ref (ma 0)), (1, .int x)] := hl
  refine lv_aload_n hx hb dX4_slotOf_0 rfl (lv_at hl 0 rfl) ?_
  refine z_getF (v := .ref (ad 0)) hx hb hts hown in_X4_slotOf_X4 hK hN 0 (by decide) rfl (hts _ (List.mem_of_getElem? (i := 1) (by decide +kernel))) rfl dX4_slotOf_1 ?_
  refine lv_iload_n hx hb dX4_slotOf_4 rfl (lv_at hl 1 rfl) ?_
  refine z_vi (As := [.int x]) (rest := []) (P2 := zNA G ad n 12 g (zRest G ad na ma π d fl T) τ) (r := zBi (¬ x < 0 ∧ x < nI n)) S (c_X1_has l G (zAll ad na ma) ad n 12 g (zRest G ad na ma π d fl T) hA (by omega) hN12  τ x) (cwV 1 hts gX4_slotOf_X1_has rfl rfl rfl (by decide +kernel) ⟨Nat.le_of_ble_eq_true rfl, Nat.le_of_ble_eq_true rfl⟩) (z_recN hK hN) hN hK hS (fun _ _ h => h) (fun _ h => h) hl.1 rfl rfl (Nat.le_of_ble_eq_true rfl) dX4_slotOf_5 ⟨Nat.le_refl _, Nat.le_refl _⟩ (fun H locs hN hS _ => ?_)
  refine lv_if_ne (tgt := 13) hx hb dX4_slotOf_8 (by decide) (fun c_1 => ?_) (fun c_2 => ?_)
  · skip
    have c_1 := zBi_n0.mp c_1
    obtain ⟨k, hk, rfl⟩ := zIn_of (by omega) c_1
    have hc_k : (nI k).toNatClampNeg = k := nI_clamp (by omega)
    refine lv_aload_n hx hb dX4_slotOf_13 rfl (lv_at hl 0 rfl) ?_
    refine z_getF (v := .ref (ad 0)) hx hb hts hown in_X4_slotOf_X4 hK hN 0 (by decide) rfl (hts _ (List.mem_of_getElem? (i := 1) (by decide +kernel))) rfl dX4_slotOf_14 ?_
    refine z_getO (v := .ref (ad 1)) hx hb hts hown in_X4_slotOf_X1 hK hN 0 (by decide) rfl (hts _ (List.mem_of_getElem? (i := 2) (by decide +kernel))) rfl dX4_slotOf_17 ?_
    refine lv_iload_n hx hb dX4_slotOf_20 rfl (lv_at hl 1 rfl) ?_
    refine z_aald (i := k) hx hb hK hN rfl (by omega) dX4_slotOf_21 ?_
    refine z_getS (v := .int (τ 8 k)) hx hb hts hown in_X4_slotOf_X3 hK hN12 hN (by omega) 8 (by decide) rfl (hts _ (List.mem_of_getElem? (i := 3) (by decide +kernel))) rfl dX4_slotOf_22 ?_
    exact z_iretE hx hb hr hlk hK hS (zIr_n (by first | assumption | (simp only [c_1, hc_k, eq_self, ne_eq, not_true_eq_false, not_false_eq_true, and_true, true_and, and_self, and_false, false_and, true_or, or_true, false_or, or_false, reduceIte]; done) | (simp [c_1, hc_k]; done) | grind) (by first | rfl | (simp only [c_1, hc_k, eq_self, ne_eq, not_true_eq_false, not_false_eq_true, and_true, true_and, and_self, and_false, false_and, true_or, or_true, false_or, or_false, reduceIte]; done) | (simp [c_1, hc_k]; done))) (zIf_n (by first | assumption | (simp only [c_1, hc_k, eq_self, ne_eq, not_true_eq_false, not_false_eq_true, and_true, true_and, and_self, and_false, false_and, true_or, or_true, false_or, or_false, reduceIte]; done) | (simp [c_1, hc_k]; done) | grind) (by first | exact hN | (simpa only [c_1, hc_k, eq_self, ne_eq, not_true_eq_false, not_false_eq_true, and_true, true_and, and_self, and_false, false_and, true_or, or_true, false_or, or_false, reduceIte] using hN) | (simpa [c_1, hc_k] using hN))) dX4_slotOf_25
  · skip
    have c_2 := zBi_0.mp c_2
    refine lv_iconst (v := -1) hx hb dX4_slotOf_11 (by decide) ?_
    exact z_iretE hx hb hr hlk hK hS (zIr_t (by first | assumption | (simp only [c_2, eq_self, ne_eq, not_true_eq_false, not_false_eq_true, and_true, true_and, and_self, and_false, false_and, true_or, or_true, false_or, or_false, reduceIte]; done) | (simp [c_2]; done) | grind) (by first | rfl | (simp only [c_2, eq_self, ne_eq, not_true_eq_false, not_false_eq_true, and_true, true_and, and_self, and_false, false_and, true_or, or_true, false_or, or_false, reduceIte]; done) | (simp [c_2]; done))) (zIf_t (by first | assumption | (simp only [c_2, eq_self, ne_eq, not_true_eq_false, not_false_eq_true, and_true, true_and, and_self, and_false, false_and, true_or, or_true, false_or, or_false, reduceIte]; done) | (simp [c_2]; done) | grind) (by first | exact hN | (simpa only [c_2, eq_self, ne_eq, not_true_eq_false, not_false_eq_true, and_true, true_and, and_self, and_false, false_and, true_or, or_true, false_or, or_false, reduceIte] using hN) | (simpa [c_2] using hN))) dX4_slotOf_12

theorem in_X4_addSensor_X1 : ∀ w ∈ wsX10, w ∈ wsX4_addSensor := by decide +kernel
theorem in_X4_addSensor_X4 : ∀ w ∈ wsX40, w ∈ wsX4_addSensor := by decide +kernel
set_option maxHeartbeats 4000000 in
set_option maxRecDepth 100000 in
theorem p_X4_addSensor (l : Launch) (G : zG) (ad : Nat → Nat) (na : Nat → Nat → Nat) (ma : Nat → Nat) (hd : zTd ad na ma) (π : Nat → Nat) (hπ : zPi π) (d : Nat) (hd6 : d ≤ 6) (fl : Nat → Int32) (T : Nat → zS3) (n : Nat) (hn12 : n ≤ 12) (g : Nat → Int32) (τ : zT) (x y b : Int32) : zMi l G (zAll ad na ma) yX4_addSensor wsX4_addSensor 3 64 [.ref (ma 0), .int x, .int y, .int b] (zNA G ad n 12 g (zRest G ad na ma π d fl T) τ) (if ¬ zC3 x y b then -1 else (if n = 12 then -3 else nI n)) (if ¬ zC3 x y b then (zNA G ad n 12 g (zRest G ad na ma π d fl T) τ) else (if n = 12 then (zNA G ad n 12 g (zRest G ad na ma π d fl T) τ) else (zNA G ad (n + 1) 12 g (zRest G ad na ma (zPp d π) (zPd2 d + 1) fl (va_up T ((zPp d π) (zPd2 d)) (zCpy n g τ (T ((zPp d π) (zPd2 d)))))) (zPlc τ n x y b)))) := by
  refine z_met (cc := cX4_addSensor) (maxL := 4) (ret := (some .int)) (by decide) rfl (Nat.le_of_ble_eq_true rfl) ?_
  intro p e s m below meth c ls S hr hlk hnm hN hK hl
  have S : CallFix p m c cX4_addSensor 4 s _ wsX4_addSensor RX4 := S
  obtain ⟨hx, hb, hml, hown, hts⟩ := id S
  have hN12 : 12 ≤ 12 := Nat.le_refl 12
  have hA := zAp_top (G := G) hd π d fl T
  have hS : va_S (zAll ad na ma) s.heap s.heap [] := va_S.rf
  have hl : lv_has ls 4 [(0, .ref (ma 0)), (1, .int x), (2, .int y), (3, .int b)] := hl
  refine lv_iload_n hx hb dX4_addSensor_0 rfl (lv_at hl 1 rfl) ?_
  refine lv_iconst (v := 0) hx hb dX4_addSensor_1 (by decide) ?_
  refine lv_bipush (v := 99) hx hb dX4_addSensor_2 (by decide) ?_
  refine z_si (As := [.int x, .int 0, .int 99]) (rest := []) (P2 := zNA G ad n 12 g (zRest G ad na ma π d fl T) τ) (r := zBi (¬ x < 0 ∧ ¬ 99 < x)) S (c_X4_inRange l G (zAll ad na ma) (zNA G ad n 12 g (zRest G ad na ma π d fl T) τ) x 0 99) (cwS 3 hts gX4_addSensor_X4_inRange rfl rfl rfl (by decide +kernel) ⟨Nat.le_of_ble_eq_true rfl, Nat.le_of_ble_eq_true rfl⟩) hN hK hS (fun _ _ h => h) (fun _ h => h) hl.1 rfl rfl (Nat.le_of_ble_eq_true rfl) dX4_addSensor_4 ⟨Nat.le_refl _, Nat.le_refl _⟩ (fun H locs hN hS _ => ?_)
  refine lv_if_eq (tgt := 30) hx hb dX4_addSensor_7 (by decide) (fun c_1 => ?_) (fun c_2 => ?_)
  · skip
    have c_1 := zBi_0.mp c_1
    refine lv_iconst (v := -1) hx hb dX4_addSensor_30 (by decide) ?_
    exact z_iretE hx hb hr hlk hK hS (zIr_t (by first | assumption | (simp only [zC3, c_1, eq_self, ne_eq, not_true_eq_false, not_false_eq_true, and_true, true_and, and_self, and_false, false_and, true_or, or_true, false_or, or_false, reduceIte]; done) | (simp [zC3, c_1]; done) | grind) (by first | rfl | (simp only [zC3, c_1, eq_self, ne_eq, not_true_eq_false, not_false_eq_true, and_true, true_and, and_self, and_false, false_and, true_or, or_true, false_or, or_false, reduceIte]; done) | (simp [zC3, c_1]; done))) (zIf_t (by first | assumption | (simp only [zC3, c_1, eq_self, ne_eq, not_true_eq_false, not_false_eq_true, and_true, true_and, and_self, and_false, false_and, true_or, or_true, false_or, or_false, reduceIte]; done) | (simp [zC3, c_1]; done) | grind) (by first | exact hN | (simpa only [zC3, c_1, eq_self, ne_eq, not_true_eq_false, not_false_eq_true, and_true, true_and, and_self, and_false, false_and, true_or, or_true, false_or, or_false, reduceIte] using hN) | (simpa [zC3, c_1] using hN))) dX4_addSensor_31
  · skip
    have c_2 := zBi_n0.mp c_2
    refine lv_iload_n hx hb dX4_addSensor_10 rfl (lv_at hl 2 rfl) ?_
    refine lv_iconst (v := 0) hx hb dX4_addSensor_11 (by decide) ?_
    refine lv_bipush (v := 99) hx hb dX4_addSensor_12 (by decide) ?_
    refine z_si (As := [.int y, .int 0, .int 99]) (rest := []) (P2 := zNA G ad n 12 g (zRest G ad na ma π d fl T) τ) (r := zBi (¬ y < 0 ∧ ¬ 99 < y)) S (c_X4_inRange l G (zAll ad na ma) (zNA G ad n 12 g (zRest G ad na ma π d fl T) τ) y 0 99) (cwS 3 hts gX4_addSensor_X4_inRange rfl rfl rfl (by decide +kernel) ⟨Nat.le_of_ble_eq_true rfl, Nat.le_of_ble_eq_true rfl⟩) hN hK hS (fun _ _ h => h) (fun _ h => h) hl.1 rfl rfl (Nat.le_of_ble_eq_true rfl) dX4_addSensor_14 ⟨Nat.le_refl _, Nat.le_refl _⟩ (fun H locs hN hS _ => ?_)
    refine lv_if_eq (tgt := 30) hx hb dX4_addSensor_17 (by decide) (fun c_3 => ?_) (fun c_4 => ?_)
    · skip
      have c_3 := zBi_0.mp c_3
      refine lv_iconst (v := -1) hx hb dX4_addSensor_30 (by decide) ?_
      exact z_iretE hx hb hr hlk hK hS (zIr_t (by first | assumption | (simp only [zC3, c_2, c_3, eq_self, ne_eq, not_true_eq_false, not_false_eq_true, and_true, true_and, and_self, and_false, false_and, true_or, or_true, false_or, or_false, reduceIte]; done) | (simp [zC3, c_2, c_3]; done) | grind) (by first | rfl | (simp only [zC3, c_2, c_3, eq_self, ne_eq, not_true_eq_false, not_false_eq_true, and_true, true_and, and_self, and_false, false_and, true_or, or_true, false_or, or_false, reduceIte]; done) | (simp [zC3, c_2, c_3]; done))) (zIf_t (by first | assumption | (simp only [zC3, c_2, c_3, eq_self, ne_eq, not_true_eq_false, not_false_eq_true, and_true, true_and, and_self, and_false, false_and, true_or, or_true, false_or, or_false, reduceIte]; done) | (simp [zC3, c_2, c_3]; done) | grind) (by first | exact hN | (simpa only [zC3, c_2, c_3, eq_self, ne_eq, not_true_eq_false, not_false_eq_true, and_true, true_and, and_self, and_false, false_and, true_or, or_true, false_or, or_false, reduceIte] using hN) | (simpa [zC3, c_2, c_3] using hN))) dX4_addSensor_31
    · skip
      have c_4 := zBi_n0.mp c_4
      refine lv_iload_n hx hb dX4_addSensor_20 rfl (lv_at hl 3 rfl) ?_
      refine lv_iconst (v := 0) hx hb dX4_addSensor_21 (by decide) ?_
      refine lv_ldc (v := 100000) hx hb hown (hts _ (List.mem_of_getElem? (i := 1) (by decide +kernel))) dX4_addSensor_22 ?_
      refine z_si (As := [.int b, .int 0, .int 100000]) (rest := []) (P2 := zNA G ad n 12 g (zRest G ad na ma π d fl T) τ) (r := zBi (¬ b < 0 ∧ ¬ 100000 < b)) S (c_X4_inRange l G (zAll ad na ma) (zNA G ad n 12 g (zRest G ad na ma π d fl T) τ) b 0 100000) (cwS 3 hts gX4_addSensor_X4_inRange rfl rfl rfl (by decide +kernel) ⟨Nat.le_of_ble_eq_true rfl, Nat.le_of_ble_eq_true rfl⟩) hN hK hS (fun _ _ h => h) (fun _ h => h) hl.1 rfl rfl (Nat.le_of_ble_eq_true rfl) dX4_addSensor_24 ⟨Nat.le_refl _, Nat.le_refl _⟩ (fun H locs hN hS _ => ?_)
      refine lv_if_ne (tgt := 32) hx hb dX4_addSensor_27 (by decide) (fun c_5 => ?_) (fun c_6 => ?_)
      · skip
        have c_5 := zBi_n0.mp c_5
        refine lv_aload_n hx hb dX4_addSensor_32 rfl (lv_at hl 0 rfl) ?_
        refine z_getF (v := .ref (ad 0)) hx hb hts hown in_X4_addSensor_X4 hK hN 0 (by decide) rfl (hts _ (List.mem_of_getElem? (i := 2) (by decide +kernel))) rfl dX4_addSensor_33 ?_
        refine z_getO (v := .int (nI n)) hx hb hts hown in_X4_addSensor_X1 hK hN 2 (by decide) rfl (hts _ (List.mem_of_getElem? (i := 3) (by decide +kernel))) rfl dX4_addSensor_36 ?_
        refine lv_bipush (v := 12) hx hb dX4_addSensor_39 (by decide) ?_
        refine lv_icmp_lt (tgt := 47) hx hb dX4_addSensor_41 (by decide) (fun c_7 => ?_) (fun c_8 => ?_)
        · skip
          have c_7 := (z_ltI (a := n) (b := 12) (by omega) (by omega)).mp c_7
          refine lv_aload_n hx hb dX4_addSensor_47 rfl (lv_at hl 0 rfl) ?_
          refine z_getF (v := .ref (ma 3)) hx hb hts hown in_X4_addSensor_X4 hK hN 4 (by decide) rfl (hts _ (List.mem_of_getElem? (i := 4) (by decide +kernel))) rfl dX4_addSensor_48 ?_
          refine lv_aload_n hx hb dX4_addSensor_51 rfl (lv_at hl 0 rfl) ?_
          refine z_getF (v := .ref (ad 0)) hx hb hts hown in_X4_addSensor_X4 hK hN 0 (by decide) rfl (hts _ (List.mem_of_getElem? (i := 2) (by decide +kernel))) rfl dX4_addSensor_52 ?_
          refine z_vv (As := [.ref (ad 0)]) (rest := []) (P2 := zNA G ad n 12 g (zRest G ad na ma (zPp d π) (zPd2 d + 1) fl (va_up T ((zPp d π) (zPd2 d)) (zCpy n g τ (T ((zPp d π) (zPd2 d)))))) τ) S (h_X0_push l G ad na ma hd π hπ d hd6 fl T n hn12 g τ) (cwV 1 hts gX4_addSensor_X0_push rfl rfl rfl (by decide +kernel) ⟨Nat.le_of_ble_eq_true rfl, Nat.le_of_ble_eq_true rfl⟩) (z_recH hK hN) hN hK hS (fun _ _ h => h) (fun _ h => h) hl.1 rfl rfl (Nat.le_of_ble_eq_true rfl) dX4_addSensor_55 ⟨Nat.le_refl _, Nat.le_refl _⟩ (fun H locs hN hS _ => ?_)
          have hA := zAp_top (G := G) hd (zPp d π) (zPd2 d + 1) fl (va_up T ((zPp d π) (zPd2 d)) (zCpy n g τ (T ((zPp d π) (zPd2 d)))))
          refine lv_aload_n hx hb dX4_addSensor_58 rfl (lv_at hl 0 rfl) ?_
          refine z_getF (v := .ref (ad 0)) hx hb hts hown in_X4_addSensor_X4 hK hN 0 (by decide) rfl (hts _ (List.mem_of_getElem? (i := 2) (by decide +kernel))) rfl dX4_addSensor_59 ?_
          refine z_getO (v := .ref (ad 1)) hx hb hts hown in_X4_addSensor_X1 hK hN 0 (by decide) rfl (hts _ (List.mem_of_getElem? (i := 5) (by decide +kernel))) rfl dX4_addSensor_62 ?_
          refine lv_aload_n hx hb dX4_addSensor_65 rfl (lv_at hl 0 rfl) ?_
          refine z_getF (v := .ref (ad 0)) hx hb hts hown in_X4_addSensor_X4 hK hN 0 (by decide) rfl (hts _ (List.mem_of_getElem? (i := 2) (by decide +kernel))) rfl dX4_addSensor_66 ?_
          refine z_getO (v := .int (nI n)) hx hb hts hown in_X4_addSensor_X1 hK hN 2 (by decide) rfl (hts _ (List.mem_of_getElem? (i := 3) (by decide +kernel))) rfl dX4_addSensor_69 ?_
          refine z_aald (i := n) hx hb hK hN rfl (by omega) dX4_addSensor_72 ?_
          refine lv_iload_n hx hb dX4_addSensor_73 rfl (lv_at hl 1 rfl) ?_
          refine lv_iload_n hx hb dX4_addSensor_74 rfl (lv_at hl 2 rfl) ?_
          refine lv_iload_n hx hb dX4_addSensor_75 rfl (lv_at hl 3 rfl) ?_
          refine z_vv (As := [.int x, .int y, .int b]) (rest := []) (P2 := zNA G ad n 12 g (zRest G ad na ma (zPp d π) (zPd2 d + 1) fl (va_up T ((zPp d π) (zPd2 d)) (zCpy n g τ (T ((zPp d π) (zPd2 d)))))) (zPlc τ n x y b)) S (c_X3_place l G (zAll ad na ma) ad n 12 g (zRest G ad na ma (zPp d π) (zPd2 d + 1) fl (va_up T ((zPp d π) (zPd2 d)) (zCpy n g τ (T ((zPp d π) (zPd2 d)))))) hA (by omega) hN12  τ n (by omega) x y b) (cwV 3 hts gX4_addSensor_X3_place rfl rfl rfl (by decide +kernel) ⟨Nat.le_of_ble_eq_true rfl, Nat.le_of_ble_eq_true rfl⟩) (z_recS hK hN (by omega)) hN hK hS (fun _ _ h => h) (fun _ h => h) hl.1 rfl rfl (Nat.le_of_ble_eq_true rfl) dX4_addSensor_76 ⟨Nat.le_refl _, Nat.le_refl _⟩ (fun H locs hN hS _ => ?_)
          refine lv_aload_n hx hb dX4_addSensor_79 rfl (lv_at hl 0 rfl) ?_
          refine z_getF (v := .ref (ad 0)) hx hb hts hown in_X4_addSensor_X4 hK hN 0 (by decide) rfl (hts _ (List.mem_of_getElem? (i := 2) (by decide +kernel))) rfl dX4_addSensor_80 ?_
          refine lv_dup hx hb dX4_addSensor_83 rfl ?_
          refine z_getO (v := .int (nI n)) hx hb hts hown in_X4_addSensor_X1 hK hN 2 (by decide) rfl (hts _ (List.mem_of_getElem? (i := 3) (by decide +kernel))) rfl dX4_addSensor_84 ?_
          refine lv_iconst (v := 1) hx hb dX4_addSensor_87 (by decide) ?_
          refine lv_iadd hx hb dX4_addSensor_88 ?_
          refine z_top (x2 := nI (n + 1)) (nI_add n 1) ?_
          refine z_putC (w := nI (n + 1)) hx hb hts hown in_X4_addSensor_X1 hK hA hS hN 2 (by decide) rfl (hts _ (List.mem_of_getElem? (i := 3) (by decide +kernel))) (by decide +kernel) (n + 1) g (by intro j hj; first | rfl | (unfold upd; rw [if_neg (by omega)])) rfl (by intro τ; first | rfl | simp [zObj, upd]) dX4_addSensor_89 (fun H locs hN hS => ?_)
          refine lv_aload_n hx hb dX4_addSensor_92 rfl (lv_at hl 0 rfl) ?_
          refine z_getF (v := .ref (ad 0)) hx hb hts hown in_X4_addSensor_X4 hK hN 0 (by decide) rfl (hts _ (List.mem_of_getElem? (i := 2) (by decide +kernel))) rfl dX4_addSensor_93 ?_
          refine z_getO (v := .int (nI (n + 1))) hx hb hts hown in_X4_addSensor_X1 hK hN 2 (by decide) rfl (hts _ (List.mem_of_getElem? (i := 3) (by decide +kernel))) rfl dX4_addSensor_96 ?_
          refine lv_iconst (v := 1) hx hb dX4_addSensor_99 (by decide) ?_
          refine lv_isub hx hb dX4_addSensor_100 ?_
          refine z_top (x2 := nI ((n + 1) - 1)) (pk_sub (a := (n + 1)) (b := 1) (by omega)) ?_
          exact z_iretE hx hb hr hlk hK hS (zIr_n (by first | assumption | (simp only [zC3, c_2, c_4, c_5, c_7, eq_self, ne_eq, not_true_eq_false, not_false_eq_true, and_true, true_and, and_self, and_false, false_and, true_or, or_true, false_or, or_false, reduceIte]; done) | (simp [zC3, c_2, c_4, c_5, c_7]; done) | grind) (zIr_n (by first | assumption | (simp only [zC3, c_2, c_4, c_5, c_7, eq_self, ne_eq, not_true_eq_false, not_false_eq_true, and_true, true_and, and_self, and_false, false_and, true_or, or_true, false_or, or_false, reduceIte]; done) | (simp [zC3, c_2, c_4, c_5, c_7]; done) | grind) (by first | rfl | (simp only [zC3, c_2, c_4, c_5, c_7, eq_self, ne_eq, not_true_eq_false, not_false_eq_true, and_true, true_and, and_self, and_false, false_and, true_or, or_true, false_or, or_false, reduceIte]; done) | (simp [zC3, c_2, c_4, c_5, c_7]; done)))) (zIf_n (by first | assumption | (simp only [zC3, c_2, c_4, c_5, c_7, eq_self, ne_eq, not_true_eq_false, not_false_eq_true, and_true, true_and, and_self, and_false, false_and, true_or, or_true, false_or, or_false, reduceIte]; done) | (simp [zC3, c_2, c_4, c_5, c_7]; done) | grind) (zIf_n (by first | assumption | (simp only [zC3, c_2, c_4, c_5, c_7, eq_self, ne_eq, not_true_eq_false, not_false_eq_true, and_true, true_and, and_self, and_false, false_and, true_or, or_true, false_or, or_false, reduceIte]; done) | (simp [zC3, c_2, c_4, c_5, c_7]; done) | grind) (by first | exact hN | (simpa only [zC3, c_2, c_4, c_5, c_7, eq_self, ne_eq, not_true_eq_false, not_false_eq_true, and_true, true_and, and_self, and_false, false_and, true_or, or_true, false_or, or_false, reduceIte] using hN) | (simpa [zC3, c_2, c_4, c_5, c_7] using hN)))) dX4_addSensor_101
        · skip
          have c_8 := (not_congr (z_ltI (a := n) (b := 12) (by omega) (by omega))).mp c_8
          refine lv_bipush (v := -3) hx hb dX4_addSensor_44 (by decide) ?_
          exact z_iretE hx hb hr hlk hK hS (zIr_n (by first | assumption | (simp only [zC3, c_2, c_4, c_5, c_8, eq_self, ne_eq, not_true_eq_false, not_false_eq_true, and_true, true_and, and_self, and_false, false_and, true_or, or_true, false_or, or_false, reduceIte]; done) | (simp [zC3, c_2, c_4, c_5, c_8]; done) | grind) (zIr_t (by first | assumption | (simp only [zC3, c_2, c_4, c_5, c_8, eq_self, ne_eq, not_true_eq_false, not_false_eq_true, and_true, true_and, and_self, and_false, false_and, true_or, or_true, false_or, or_false, reduceIte]; done) | (simp [zC3, c_2, c_4, c_5, c_8]; done) | grind) (by first | rfl | (simp only [zC3, c_2, c_4, c_5, c_8, eq_self, ne_eq, not_true_eq_false, not_false_eq_true, and_true, true_and, and_self, and_false, false_and, true_or, or_true, false_or, or_false, reduceIte]; done) | (simp [zC3, c_2, c_4, c_5, c_8]; done)))) (zIf_n (by first | assumption | (simp only [zC3, c_2, c_4, c_5, c_8, eq_self, ne_eq, not_true_eq_false, not_false_eq_true, and_true, true_and, and_self, and_false, false_and, true_or, or_true, false_or, or_false, reduceIte]; done) | (simp [zC3, c_2, c_4, c_5, c_8]; done) | grind) (zIf_t (by first | assumption | (simp only [zC3, c_2, c_4, c_5, c_8, eq_self, ne_eq, not_true_eq_false, not_false_eq_true, and_true, true_and, and_self, and_false, false_and, true_or, or_true, false_or, or_false, reduceIte]; done) | (simp [zC3, c_2, c_4, c_5, c_8]; done) | grind) (by first | exact hN | (simpa only [zC3, c_2, c_4, c_5, c_8, eq_self, ne_eq, not_true_eq_false, not_false_eq_true, and_true, true_and, and_self, and_false, false_and, true_or, or_true, false_or, or_false, reduceIte] using hN) | (simpa [zC3, c_2, c_4, c_5, c_8] using hN)))) dX4_addSensor_46
      · skip
        have c_6 := zBi_0.mp c_6
        refine lv_iconst (v := -1) hx hb dX4_addSensor_30 (by decide) ?_
        exact z_iretE hx hb hr hlk hK hS (zIr_t (by first | assumption | (simp only [zC3, c_2, c_4, c_6, eq_self, ne_eq, not_true_eq_false, not_false_eq_true, and_true, true_and, and_self, and_false, false_and, true_or, or_true, false_or, or_false, reduceIte]; done) | (simp [zC3, c_2, c_4, c_6]; done) | grind) (by first | rfl | (simp only [zC3, c_2, c_4, c_6, eq_self, ne_eq, not_true_eq_false, not_false_eq_true, and_true, true_and, and_self, and_false, false_and, true_or, or_true, false_or, or_false, reduceIte]; done) | (simp [zC3, c_2, c_4, c_6]; done))) (zIf_t (by first | assumption | (simp only [zC3, c_2, c_4, c_6, eq_self, ne_eq, not_true_eq_false, not_false_eq_true, and_true, true_and, and_self, and_false, false_and, true_or, or_true, false_or, or_false, reduceIte]; done) | (simp [zC3, c_2, c_4, c_6]; done) | grind) (by first | exact hN | (simpa only [zC3, c_2, c_4, c_6, eq_self, ne_eq, not_true_eq_false, not_false_eq_true, and_true, true_and, and_self, and_false, false_and, true_or, or_true, false_or, or_false, reduceIte] using hN) | (simpa [zC3, c_2, c_4, c_6] using hN))) dX4_addSensor_31

theorem in_X4_setGenerator_X1 : ∀ w ∈ wsX10, w ∈ wsX4_setGenerator := by decide +kernel
theorem in_X4_setGenerator_X4 : ∀ w ∈ wsX40, w ∈ wsX4_setGenerator := by decide +kernel
set_option maxHeartbeats 4000000 in
set_option maxRecDepth 100000 in
theorem p_X4_setGenerator (l : Launch) (G : zG) (ad : Nat → Nat) (na : Nat → Nat → Nat) (ma : Nat → Nat) (hd : zTd ad na ma) (π : Nat → Nat) (hπ : zPi π) (d : Nat) (hd6 : d ≤ 6) (fl : Nat → Int32) (T : Nat → zS3) (n : Nat) (hn12 : n ≤ 12) (g : Nat → Int32) (τ : zT) (x : Int32) : zMi l G (zAll ad na ma) yX4_setGenerator wsX4_setGenerator 3 64 [.ref (ma 0), .int x] (zNA G ad n 12 g (zRest G ad na ma π d fl T) τ) (if x < 0 then -1 else τ 11 10) (if x < 0 then (zNA G ad n 12 g (zRest G ad na ma π d fl T) τ) else (zNA G ad n 12 g (zRest G ad na ma (zPp d π) (zPd2 d + 1) fl (va_up T ((zPp d π) (zPd2 d)) (zCpy n g τ (T ((zPp d π) (zPd2 d)))))) (zSt τ 11 9 x))) := by
  refine z_met (cc := cX4_setGenerator) (maxL := 2) (ret := (some .int)) (by decide) rfl (Nat.le_of_ble_eq_true rfl) ?_
  intro p e s m below meth c ls S hr hlk hnm hN hK hl
  have S : CallFix p m c cX4_setGenerator 2 s _ wsX4_setGenerator RX4 := S
  obtain ⟨hx, hb, hml, hown, hts⟩ := id S
  have hN12 : 12 ≤ 12 := Nat.le_refl 12
  have hA := zAp_top (G := G) hd π d fl T
  have hS : va_S (zAll ad na ma) s.heap s.heap [] := va_S.rf
  have hl : lv_has ls 2 [(0, .ref (ma 0)), (1, .int x)] := hl
  refine lv_iload_n hx hb dX4_setGenerator_0 rfl (lv_at hl 1 rfl) ?_
  refine lv_if_ge (tgt := 6) hx hb dX4_setGenerator_1 (by decide) (fun c_1 => ?_) (fun c_2 => ?_)
  · skip
    have c_1 := Int32.not_lt.mpr c_1
    refine lv_aload_n hx hb dX4_setGenerator_6 rfl (lv_at hl 0 rfl) ?_
    refine z_getF (v := .ref (ma 3)) hx hb hts hown in_X4_setGenerator_X4 hK hN 4 (by decide) rfl (hts _ (List.mem_of_getElem? (i := 1) (by decide +kernel))) rfl dX4_setGenerator_7 ?_
    refine lv_aload_n hx hb dX4_setGenerator_10 rfl (lv_at hl 0 rfl) ?_
    refine z_getF (v := .ref (ad 0)) hx hb hts hown in_X4_setGenerator_X4 hK hN 0 (by decide) rfl (hts _ (List.mem_of_getElem? (i := 2) (by decide +kernel))) rfl dX4_setGenerator_11 ?_
    refine z_vv (As := [.ref (ad 0)]) (rest := []) (P2 := zNA G ad n 12 g (zRest G ad na ma (zPp d π) (zPd2 d + 1) fl (va_up T ((zPp d π) (zPd2 d)) (zCpy n g τ (T ((zPp d π) (zPd2 d)))))) τ) S (h_X0_push l G ad na ma hd π hπ d hd6 fl T n hn12 g τ) (cwV 1 hts gX4_setGenerator_X0_push rfl rfl rfl (by decide +kernel) ⟨Nat.le_of_ble_eq_true rfl, Nat.le_of_ble_eq_true rfl⟩) (z_recH hK hN) hN hK hS (fun _ _ h => h) (fun _ h => h) hl.1 rfl rfl (Nat.le_of_ble_eq_true rfl) dX4_setGenerator_14 ⟨Nat.le_refl _, Nat.le_refl _⟩ (fun H locs hN hS _ => ?_)
    have hA := zAp_top (G := G) hd (zPp d π) (zPd2 d + 1) fl (va_up T ((zPp d π) (zPd2 d)) (zCpy n g τ (T ((zPp d π) (zPd2 d)))))
    refine lv_aload_n hx hb dX4_setGenerator_17 rfl (lv_at hl 0 rfl) ?_
    refine z_getF (v := .ref (ad 0)) hx hb hts hown in_X4_setGenerator_X4 hK hN 0 (by decide) rfl (hts _ (List.mem_of_getElem? (i := 2) (by decide +kernel))) rfl dX4_setGenerator_18 ?_
    refine lv_iload_n hx hb dX4_setGenerator_21 rfl (lv_at hl 1 rfl) ?_
    refine z_putO (w := x) hx hb hts hown in_X4_setGenerator_X1 hK hA hS hN 5 9 (by decide) rfl (hts _ (List.mem_of_getElem? (i := 3) (by decide +kernel))) (by decide +kernel) rfl (fun τ => zObs5 ad _ _ τ _) dX4_setGenerator_22 (fun H locs hN hS => ?_)
    refine lv_aload_n hx hb dX4_setGenerator_25 rfl (lv_at hl 0 rfl) ?_
    refine z_getF (v := .ref (ad 0)) hx hb hts hown in_X4_setGenerator_X4 hK hN 0 (by decide) rfl (hts _ (List.mem_of_getElem? (i := 2) (by decide +kernel))) rfl dX4_setGenerator_26 ?_
    refine z_getO (v := .int (τ 11 10)) hx hb hts hown in_X4_setGenerator_X1 hK hN 6 (by decide) rfl (hts _ (List.mem_of_getElem? (i := 4) (by decide +kernel))) rfl dX4_setGenerator_29 ?_
    exact z_iretE hx hb hr hlk hK hS (zIr_n (by first | assumption | (simp only [c_1, eq_self, ne_eq, not_true_eq_false, not_false_eq_true, and_true, true_and, and_self, and_false, false_and, true_or, or_true, false_or, or_false, reduceIte]; done) | (simp [c_1]; done) | grind) (by first | rfl | (simp only [c_1, eq_self, ne_eq, not_true_eq_false, not_false_eq_true, and_true, true_and, and_self, and_false, false_and, true_or, or_true, false_or, or_false, reduceIte]; done) | (simp [c_1]; done))) (zIf_n (by first | assumption | (simp only [c_1, eq_self, ne_eq, not_true_eq_false, not_false_eq_true, and_true, true_and, and_self, and_false, false_and, true_or, or_true, false_or, or_false, reduceIte]; done) | (simp [c_1]; done) | grind) (by first | exact hN | (simpa only [c_1, eq_self, ne_eq, not_true_eq_false, not_false_eq_true, and_true, true_and, and_self, and_false, false_and, true_or, or_true, false_or, or_false, reduceIte] using hN) | (simpa [c_1] using hN))) dX4_setGenerator_32
  · skip
    have c_2 := Int32.not_le.mp c_2
    refine lv_iconst (v := -1) hx hb dX4_setGenerator_4 (by decide) ?_
    exact z_iretE hx hb hr hlk hK hS (zIr_t (by first | assumption | (simp only [c_2, eq_self, ne_eq, not_true_eq_false, not_false_eq_true, and_true, true_and, and_self, and_false, false_and, true_or, or_true, false_or, or_false, reduceIte]; done) | (simp [c_2]; done) | grind) (by first | rfl | (simp only [c_2, eq_self, ne_eq, not_true_eq_false, not_false_eq_true, and_true, true_and, and_self, and_false, false_and, true_or, or_true, false_or, or_false, reduceIte]; done) | (simp [c_2]; done))) (zIf_t (by first | assumption | (simp only [c_2, eq_self, ne_eq, not_true_eq_false, not_false_eq_true, and_true, true_and, and_self, and_false, false_and, true_or, or_true, false_or, or_false, reduceIte]; done) | (simp [c_2]; done) | grind) (by first | exact hN | (simpa only [c_2, eq_self, ne_eq, not_true_eq_false, not_false_eq_true, and_true, true_and, and_self, and_false, false_and, true_or, or_true, false_or, or_false, reduceIte] using hN) | (simpa [c_2] using hN))) dX4_setGenerator_5

theorem in_X4_charge_X1 : ∀ w ∈ wsX10, w ∈ wsX4_charge := by decide +kernel
theorem in_X4_charge_X3 : ∀ w ∈ wsX30, w ∈ wsX4_charge := by decide +kernel
theorem in_X4_charge_X4 : ∀ w ∈ wsX40, w ∈ wsX4_charge := by decide +kernel
set_option maxHeartbeats 4000000 in
set_option maxRecDepth 100000 in
theorem p_X4_charge (l : Launch) (G : zG) (ad : Nat → Nat) (na : Nat → Nat → Nat) (ma : Nat → Nat) (hd : zTd ad na ma) (π : Nat → Nat) (hπ : zPi π) (d : Nat) (hd6 : d ≤ 6) (fl : Nat → Int32) (T : Nat → zS3) (n : Nat) (hn12 : n ≤ 12) (g : Nat → Int32) (τ : zT) (x u : Int32) : zMi l G (zAll ad na ma) yX4_charge wsX4_charge 3 64 [.ref (ma 0), .int x, .int u] (zNA G ad n 12 g (zRest G ad na ma π d fl T) τ) (if ¬ ((¬ x < 0 ∧ x < nI n) ∧ (¬ u < 1 ∧ ¬ 100000 < u)) then -1 else (if ¬ (τ 3 x.toNatClampNeg = 1 ∧ ¬ 1000000 < τ 2 x.toNatClampNeg + u) then -2 else τ 2 x.toNatClampNeg + u)) (if ¬ ((¬ x < 0 ∧ x < nI n) ∧ (¬ u < 1 ∧ ¬ 100000 < u)) then (zNA G ad n 12 g (zRest G ad na ma π d fl T) τ) else (if ¬ (τ 3 x.toNatClampNeg = 1 ∧ ¬ 1000000 < τ 2 x.toNatClampNeg + u) then (zNA G ad n 12 g (zRest G ad na ma π d fl T) τ) else (zNA G ad n 12 g (zRest G ad na ma (zPp d π) (zPd2 d + 1) fl (va_up T ((zPp d π) (zPd2 d)) (zCpy n g τ (T ((zPp d π) (zPd2 d)))))) (zSt τ 2 x.toNatClampNeg (τ 2 x.toNatClampNeg + u))))) := by
  refine z_met (cc := cX4_charge) (maxL := 4) (ret := (some .int)) (by decide) rfl (Nat.le_of_ble_eq_true rfl) ?_
  intro p e s m below meth c ls S hr hlk hnm hN hK hl
  have S : CallFix p m c cX4_charge 4 s _ wsX4_charge RX4 := S
  obtain ⟨hx, hb, hml, hown, hts⟩ := id S
  have hN12 : 12 ≤ 12 := Nat.le_refl 12
  have hA := zAp_top (G := G) hd π d fl T
  have hS : va_S (zAll ad na ma) s.heap s.heap [] := va_S.rf
  have hl : lv_has ls 4 [(0, .ref (ma 0)), (1, .int x), (2, .int u)] := hl
  refine lv_aload_n hx hb dX4_charge_0 rfl (lv_at hl 0 rfl) ?_
  refine z_getF (v := .ref (ad 0)) hx hb hts hown in_X4_charge_X4 hK hN 0 (by decide) rfl (hts _ (List.mem_of_getElem? (i := 1) (by decide +kernel))) rfl dX4_charge_1 ?_
  refine lv_iload_n hx hb dX4_charge_4 rfl (lv_at hl 1 rfl) ?_
  refine z_vi (As := [.int x]) (rest := []) (P2 := zNA G ad n 12 g (zRest G ad na ma π d fl T) τ) (r := zBi (¬ x < 0 ∧ x < nI n)) S (c_X1_has l G (zAll ad na ma) ad n 12 g (zRest G ad na ma π d fl T) hA (by omega) hN12  τ x) (cwV 1 hts gX4_charge_X1_has rfl rfl rfl (by decide +kernel) ⟨Nat.le_of_ble_eq_true rfl, Nat.le_of_ble_eq_true rfl⟩) (z_recN hK hN) hN hK hS (fun _ _ h => h) (fun _ h => h) hl.1 rfl rfl (Nat.le_of_ble_eq_true rfl) dX4_charge_5 ⟨Nat.le_refl _, Nat.le_refl _⟩ (fun H locs hN hS _ => ?_)
  refine lv_if_eq (tgt := 21) hx hb dX4_charge_8 (by decide) (fun c_1 => ?_) (fun c_2 => ?_)
  · skip
    have c_1 := zBi_0.mp c_1
    refine lv_iconst (v := -1) hx hb dX4_charge_21 (by decide) ?_
    exact z_iretE hx hb hr hlk hK hS (zIr_t (by first | assumption | (simp only [c_1, eq_self, ne_eq, not_true_eq_false, not_false_eq_true, and_true, true_and, and_self, and_false, false_and, true_or, or_true, false_or, or_false, reduceIte]; done) | (simp [c_1]; done) | grind) (by first | rfl | (simp only [c_1, eq_self, ne_eq, not_true_eq_false, not_false_eq_true, and_true, true_and, and_self, and_false, false_and, true_or, or_true, false_or, or_false, reduceIte]; done) | (simp [c_1]; done))) (zIf_t (by first | assumption | (simp only [c_1, eq_self, ne_eq, not_true_eq_false, not_false_eq_true, and_true, true_and, and_self, and_false, false_and, true_or, or_true, false_or, or_false, reduceIte]; done) | (simp [c_1]; done) | grind) (by first | exact hN | (simpa only [c_1, eq_self, ne_eq, not_true_eq_false, not_false_eq_true, and_true, true_and, and_self, and_false, false_and, true_or, or_true, false_or, or_false, reduceIte] using hN) | (simpa [c_1] using hN))) dX4_charge_22
  · skip
    have c_2 := zBi_n0.mp c_2
    obtain ⟨k, hk, rfl⟩ := zIn_of (by omega) c_2
    have hc_k : (nI k).toNatClampNeg = k := nI_clamp (by omega)
    refine lv_iload_n hx hb dX4_charge_11 rfl (lv_at hl 2 rfl) ?_
    refine lv_iconst (v := 1) hx hb dX4_charge_12 (by decide) ?_
    refine lv_ldc (v := 100000) hx hb hown (hts _ (List.mem_of_getElem? (i := 2) (by decide +kernel))) dX4_charge_13 ?_
    refine z_si (As := [.int u, .int 1, .int 100000]) (rest := []) (P2 := zNA G ad n 12 g (zRest G ad na ma π d fl T) τ) (r := zBi (¬ u < 1 ∧ ¬ 100000 < u)) S (c_X4_inRange l G (zAll ad na ma) (zNA G ad n 12 g (zRest G ad na ma π d fl T) τ) u 1 100000) (cwS 3 hts gX4_charge_X4_inRange rfl rfl rfl (by decide +kernel) ⟨Nat.le_of_ble_eq_true rfl, Nat.le_of_ble_eq_true rfl⟩) hN hK hS (fun _ _ h => h) (fun _ h => h) hl.1 rfl rfl (Nat.le_of_ble_eq_true rfl) dX4_charge_15 ⟨Nat.le_refl _, Nat.le_refl _⟩ (fun H locs hN hS _ => ?_)
    refine lv_if_ne (tgt := 23) hx hb dX4_charge_18 (by decide) (fun c_3 => ?_) (fun c_4 => ?_)
    · skip
      have c_3 := zBi_n0.mp c_3
      refine lv_aload_n hx hb dX4_charge_23 rfl (lv_at hl 0 rfl) ?_
      refine z_getF (v := .ref (ad 0)) hx hb hts hown in_X4_charge_X4 hK hN 0 (by decide) rfl (hts _ (List.mem_of_getElem? (i := 1) (by decide +kernel))) rfl dX4_charge_24 ?_
      refine z_getO (v := .ref (ad 1)) hx hb hts hown in_X4_charge_X1 hK hN 0 (by decide) rfl (hts _ (List.mem_of_getElem? (i := 3) (by decide +kernel))) rfl dX4_charge_27 ?_
      refine lv_iload_n hx hb dX4_charge_30 rfl (lv_at hl 1 rfl) ?_
      refine z_aald (i := k) hx hb hK hN rfl (by omega) dX4_charge_31 ?_
      refine lv_astore_n (lv' := [(3, .ref (ad (3 + k))), (0, .ref (ma 0)), (1, .int (nI k)), (2, .int u)]) hx hb dX4_charge_32 rfl hl (by decide) rfl (fun ls hl => ?_)
      refine lv_aload_n hx hb dX4_charge_33 rfl (lv_at hl 0 rfl) ?_
      refine z_getS (v := .int (zBi (τ 3 k = 1))) hx hb hts hown in_X4_charge_X3 hK hN12 hN (by omega) 3 (by decide) rfl (hts _ (List.mem_of_getElem? (i := 4) (by decide +kernel))) rfl dX4_charge_34 ?_
      refine lv_if_eq (tgt := 51) hx hb dX4_charge_37 (by decide) (fun c_5 => ?_) (fun c_6 => ?_)
      · skip
        have c_5 := zBi_0.mp c_5
        refine lv_bipush (v := -2) hx hb dX4_charge_51 (by decide) ?_
        exact z_iretE hx hb hr hlk hK hS (zIr_n (by first | assumption | (simp only [c_2, hc_k, c_3, c_5, eq_self, ne_eq, not_true_eq_false, not_false_eq_true, and_true, true_and, and_self, and_false, false_and, true_or, or_true, false_or, or_false, reduceIte]; done) | (simp [c_2, hc_k, c_3, c_5]; done) | grind) (zIr_t (by first | assumption | (simp only [c_2, hc_k, c_3, c_5, eq_self, ne_eq, not_true_eq_false, not_false_eq_true, and_true, true_and, and_self, and_false, false_and, true_or, or_true, false_or, or_false, reduceIte]; done) | (simp [c_2, hc_k, c_3, c_5]; done) | grind) (by first | rfl | (simp only [c_2, hc_k, c_3, c_5, eq_self, ne_eq, not_true_eq_false, not_false_eq_true, and_true, true_and, and_self, and_false, false_and, true_or, or_true, false_or, or_false, reduceIte]; done) | (simp [c_2, hc_k, c_3, c_5]; done)))) (zIf_n (by first | assumption | (simp only [c_2, hc_k, c_3, c_5, eq_self, ne_eq, not_true_eq_false, not_false_eq_true, and_true, true_and, and_self, and_false, false_and, true_or, or_true, false_or, or_false, reduceIte]; done) | (simp [c_2, hc_k, c_3, c_5]; done) | grind) (zIf_t (by first | assumption | (simp only [c_2, hc_k, c_3, c_5, eq_self, ne_eq, not_true_eq_false, not_false_eq_true, and_true, true_and, and_self, and_false, false_and, true_or, or_true, false_or, or_false, reduceIte]; done) | (simp [c_2, hc_k, c_3, c_5]; done) | grind) (by first | exact hN | (simpa only [c_2, hc_k, c_3, c_5, eq_self, ne_eq, not_true_eq_false, not_false_eq_true, and_true, true_and, and_self, and_false, false_and, true_or, or_true, false_or, or_false, reduceIte] using hN) | (simpa [c_2, hc_k, c_3, c_5] using hN)))) dX4_charge_53
      · skip
        have c_6 := zBi_n0.mp c_6
        refine lv_aload_n hx hb dX4_charge_40 rfl (lv_at hl 0 rfl) ?_
        refine z_getS (v := .int (τ 2 k)) hx hb hts hown in_X4_charge_X3 hK hN12 hN (by omega) 2 (by decide) rfl (hts _ (List.mem_of_getElem? (i := 5) (by decide +kernel))) rfl dX4_charge_41 ?_
        refine lv_iload_n hx hb dX4_charge_44 rfl (lv_at hl 3 rfl) ?_
        refine lv_iadd hx hb dX4_charge_45 ?_
        refine lv_ldc (v := 1000000) hx hb hown (hts _ (List.mem_of_getElem? (i := 6) (by decide +kernel))) dX4_charge_46 ?_
        refine lv_icmp_le (tgt := 54) hx hb dX4_charge_48 (by decide) (fun c_7 => ?_) (fun c_8 => ?_)
        · skip
          have c_7 := Int32.not_lt.mpr c_7
          refine lv_aload_n hx hb dX4_charge_54 rfl (lv_at hl 1 rfl) ?_
          refine z_getF (v := .ref (ma 3)) hx hb hts hown in_X4_charge_X4 hK hN 4 (by decide) rfl (hts _ (List.mem_of_getElem? (i := 7) (by decide +kernel))) rfl dX4_charge_55 ?_
          refine lv_aload_n hx hb dX4_charge_58 rfl (lv_at hl 1 rfl) ?_
          refine z_getF (v := .ref (ad 0)) hx hb hts hown in_X4_charge_X4 hK hN 0 (by decide) rfl (hts _ (List.mem_of_getElem? (i := 1) (by decide +kernel))) rfl dX4_charge_59 ?_
          refine z_vv (As := [.ref (ad 0)]) (rest := []) (P2 := zNA G ad n 12 g (zRest G ad na ma (zPp d π) (zPd2 d + 1) fl (va_up T ((zPp d π) (zPd2 d)) (zCpy n g τ (T ((zPp d π) (zPd2 d)))))) τ) S (h_X0_push l G ad na ma hd π hπ d hd6 fl T n hn12 g τ) (cwV 1 hts gX4_charge_X0_push rfl rfl rfl (by decide +kernel) ⟨Nat.le_of_ble_eq_true rfl, Nat.le_of_ble_eq_true rfl⟩) (z_recH hK hN) hN hK hS (fun _ _ h => h) (fun _ h => h) hl.1 rfl rfl (Nat.le_of_ble_eq_true rfl) dX4_charge_62 ⟨Nat.le_refl _, Nat.le_refl _⟩ (fun H locs hN hS _ => ?_)
          have hA := zAp_top (G := G) hd (zPp d π) (zPd2 d + 1) fl (va_up T ((zPp d π) (zPd2 d)) (zCpy n g τ (T ((zPp d π) (zPd2 d)))))
          refine lv_aload_n hx hb dX4_charge_65 rfl (lv_at hl 0 rfl) ?_
          refine lv_dup hx hb dX4_charge_66 rfl ?_
          refine z_getS (v := .int (τ 2 k)) hx hb hts hown in_X4_charge_X3 hK hN12 hN (by omega) 2 (by decide) rfl (hts _ (List.mem_of_getElem? (i := 5) (by decide +kernel))) rfl dX4_charge_67 ?_
          refine lv_iload_n hx hb dX4_charge_70 rfl (lv_at hl 3 rfl) ?_
          refine lv_iadd hx hb dX4_charge_71 ?_
          refine z_putS (v := .int ((τ 2 k) + u)) (w := (τ 2 k) + u) (ty := .int) hx hb hts hown in_X4_charge_X3 hK hA hS hN (by omega) 2 2 (by decide) rfl (by decide) (hts _ (List.mem_of_getElem? (i := 5) (by decide +kernel))) (by decide +kernel) rfl rfl rfl (fun τ => zSet2 τ _ _) dX4_charge_72 (fun H locs hN hS => ?_)
          refine lv_aload_n hx hb dX4_charge_75 rfl (lv_at hl 0 rfl) ?_
          refine z_getS (v := .int ((τ 2 k) + u)) hx hb hts hown in_X4_charge_X3 hK hN12 hN (by omega) 2 (by decide) rfl (hts _ (List.mem_of_getElem? (i := 5) (by decide +kernel))) (congrArg (fun z => some (Value.int z)) (zSt_self τ 2 k ((τ 2 k) + u))) dX4_charge_76 ?_
          exact z_iretE hx hb hr hlk hK hS (zIr_n (by first | assumption | (simp only [c_2, hc_k, c_3, c_6, c_7, eq_self, ne_eq, not_true_eq_false, not_false_eq_true, and_true, true_and, and_self, and_false, false_and, true_or, or_true, false_or, or_false, reduceIte]; done) | (simp [c_2, hc_k, c_3, c_6, c_7]; done) | grind) (zIr_n (by first | assumption | (simp only [c_2, hc_k, c_3, c_6, c_7, eq_self, ne_eq, not_true_eq_false, not_false_eq_true, and_true, true_and, and_self, and_false, false_and, true_or, or_true, false_or, or_false, reduceIte]; done) | (simp [c_2, hc_k, c_3, c_6, c_7]; done) | grind) (by first | rfl | (simp only [c_2, hc_k, c_3, c_6, c_7, eq_self, ne_eq, not_true_eq_false, not_false_eq_true, and_true, true_and, and_self, and_false, false_and, true_or, or_true, false_or, or_false, reduceIte]; done) | (simp [c_2, hc_k, c_3, c_6, c_7]; done)))) (zIf_n (by first | assumption | (simp only [c_2, hc_k, c_3, c_6, c_7, eq_self, ne_eq, not_true_eq_false, not_false_eq_true, and_true, true_and, and_self, and_false, false_and, true_or, or_true, false_or, or_false, reduceIte]; done) | (simp [c_2, hc_k, c_3, c_6, c_7]; done) | grind) (zIf_n (by first | assumption | (simp only [c_2, hc_k, c_3, c_6, c_7, eq_self, ne_eq, not_true_eq_false, not_false_eq_true, and_true, true_and, and_self, and_false, false_and, true_or, or_true, false_or, or_false, reduceIte]; done) | (simp [c_2, hc_k, c_3, c_6, c_7]; done) | grind) (by first | exact hN | (simpa only [c_2, hc_k, c_3, c_6, c_7, eq_self, ne_eq, not_true_eq_false, not_false_eq_true, and_true, true_and, and_self, and_false, false_and, true_or, or_true, false_or, or_false, reduceIte] using hN) | (simpa [c_2, hc_k, c_3, c_6, c_7] using hN)))) dX4_charge_79
        · skip
          have c_8 := Int32.not_le.mp c_8
          refine lv_bipush (v := -2) hx hb dX4_charge_51 (by decide) ?_
          exact z_iretE hx hb hr hlk hK hS (zIr_n (by first | assumption | (simp only [c_2, hc_k, c_3, c_6, c_8, eq_self, ne_eq, not_true_eq_false, not_false_eq_true, and_true, true_and, and_self, and_false, false_and, true_or, or_true, false_or, or_false, reduceIte]; done) | (simp [c_2, hc_k, c_3, c_6, c_8]; done) | grind) (zIr_t (by first | assumption | (simp only [c_2, hc_k, c_3, c_6, c_8, eq_self, ne_eq, not_true_eq_false, not_false_eq_true, and_true, true_and, and_self, and_false, false_and, true_or, or_true, false_or, or_false, reduceIte]; done) | (simp [c_2, hc_k, c_3, c_6, c_8]; done) | grind) (by first | rfl | (simp only [c_2, hc_k, c_3, c_6, c_8, eq_self, ne_eq, not_true_eq_false, not_false_eq_true, and_true, true_and, and_self, and_false, false_and, true_or, or_true, false_or, or_false, reduceIte]; done) | (simp [c_2, hc_k, c_3, c_6, c_8]; done)))) (zIf_n (by first | assumption | (simp only [c_2, hc_k, c_3, c_6, c_8, eq_self, ne_eq, not_true_eq_false, not_false_eq_true, and_true, true_and, and_self, and_false, false_and, true_or, or_true, false_or, or_false, reduceIte]; done) | (simp [c_2, hc_k, c_3, c_6, c_8]; done) | grind) (zIf_t (by first | assumption | (simp only [c_2, hc_k, c_3, c_6, c_8, eq_self, ne_eq, not_true_eq_false, not_false_eq_true, and_true, true_and, and_self, and_false, false_and, true_or, or_true, false_or, or_false, reduceIte]; done) | (simp [c_2, hc_k, c_3, c_6, c_8]; done) | grind) (by first | exact hN | (simpa only [c_2, hc_k, c_3, c_6, c_8, eq_self, ne_eq, not_true_eq_false, not_false_eq_true, and_true, true_and, and_self, and_false, false_and, true_or, or_true, false_or, or_false, reduceIte] using hN) | (simpa [c_2, hc_k, c_3, c_6, c_8] using hN)))) dX4_charge_53
    · skip
      have c_4 := zBi_0.mp c_4
      refine lv_iconst (v := -1) hx hb dX4_charge_21 (by decide) ?_
      exact z_iretE hx hb hr hlk hK hS (zIr_t (by first | assumption | (simp only [c_2, hc_k, c_4, eq_self, ne_eq, not_true_eq_false, not_false_eq_true, and_true, true_and, and_self, and_false, false_and, true_or, or_true, false_or, or_false, reduceIte]; done) | (simp [c_2, hc_k, c_4]; done) | grind) (by first | rfl | (simp only [c_2, hc_k, c_4, eq_self, ne_eq, not_true_eq_false, not_false_eq_true, and_true, true_and, and_self, and_false, false_and, true_or, or_true, false_or, or_false, reduceIte]; done) | (simp [c_2, hc_k, c_4]; done))) (zIf_t (by first | assumption | (simp only [c_2, hc_k, c_4, eq_self, ne_eq, not_true_eq_false, not_false_eq_true, and_true, true_and, and_self, and_false, false_and, true_or, or_true, false_or, or_false, reduceIte]; done) | (simp [c_2, hc_k, c_4]; done) | grind) (by first | exact hN | (simpa only [c_2, hc_k, c_4, eq_self, ne_eq, not_true_eq_false, not_false_eq_true, and_true, true_and, and_self, and_false, false_and, true_or, or_true, false_or, or_false, reduceIte] using hN) | (simpa [c_2, hc_k, c_4] using hN))) dX4_charge_22

theorem in_X4_isEligible_X1 : ∀ w ∈ wsX10, w ∈ wsX4_isEligible := by decide +kernel
theorem in_X4_isEligible_X3 : ∀ w ∈ wsX30, w ∈ wsX4_isEligible := by decide +kernel
theorem in_X4_isEligible_X4 : ∀ w ∈ wsX40, w ∈ wsX4_isEligible := by decide +kernel
set_option maxHeartbeats 4000000 in
set_option maxRecDepth 100000 in
theorem p_X4_isEligible (l : Launch) (G : zG) (ad : Nat → Nat) (na : Nat → Nat → Nat) (ma : Nat → Nat) (hd : zTd ad na ma) (π : Nat → Nat) (hπ : zPi π) (d : Nat) (hd6 : d ≤ 6) (fl : Nat → Int32) (T : Nat → zS3) (n : Nat) (hn12 : n ≤ 12) (g : Nat → Int32) (hd3 : 0 < g 3) (τ : zT) (x : Int32) : zMi l G (zAll ad na ma) yX4_isEligible wsX4_isEligible 1 21 [.ref (ma 0), .int x] (zNA G ad n 12 g (zRest G ad na ma π d fl T) τ) (if ¬ (¬ x < 0 ∧ x < nI n) then -1 else zBi (τ 3 x.toNatClampNeg = 1 ∧ (τ 4 x.toNatClampNeg = 1 ∨ zPh g τ = 0))) (if ¬ (¬ x < 0 ∧ x < nI n) then (zNA G ad n 12 g (zRest G ad na ma π d fl T) τ) else (zNA G ad n 12 g (zRest G ad na ma π d fl T) τ)) := by
  refine z_met (cc := cX4_isEligible) (maxL := 3) (ret := (some .int)) (by decide) rfl (Nat.le_of_ble_eq_true rfl) ?_
  intro p e s m below meth c ls S hr hlk hnm hN hK hl
  have S : CallFix p m c cX4_isEligible 3 s _ wsX4_isEligible RX4 := S
  obtain ⟨hx, hb, hml, hown, hts⟩ := id S
  have hN12 : 12 ≤ 12 := Nat.le_refl 12
  have hA := zAp_top (G := G) hd π d fl T
  have hS : va_S (zAll ad na ma) s.heap s.heap [] := va_S.rf
  have hl : lv_has ls 3 [(0, .ref (ma 0)), (1, .int x)] := hl
  refine lv_aload_n hx hb dX4_isEligible_0 rfl (lv_at hl 0 rfl) ?_
  refine z_getF (v := .ref (ad 0)) hx hb hts hown in_X4_isEligible_X4 hK hN 0 (by decide) rfl (hts _ (List.mem_of_getElem? (i := 1) (by decide +kernel))) rfl dX4_isEligible_1 ?_
  refine lv_iload_n hx hb dX4_isEligible_4 rfl (lv_at hl 1 rfl) ?_
  refine z_vi (As := [.int x]) (rest := []) (P2 := zNA G ad n 12 g (zRest G ad na ma π d fl T) τ) (r := zBi (¬ x < 0 ∧ x < nI n)) S (c_X1_has l G (zAll ad na ma) ad n 12 g (zRest G ad na ma π d fl T) hA (by omega) hN12  τ x) (cwV 1 hts gX4_isEligible_X1_has rfl rfl rfl (by decide +kernel) ⟨Nat.le_of_ble_eq_true rfl, Nat.le_of_ble_eq_true rfl⟩) (z_recN hK hN) hN hK hS (fun _ _ h => h) (fun _ h => h) hl.1 rfl rfl (Nat.le_of_ble_eq_true rfl) dX4_isEligible_5 ⟨Nat.le_refl _, Nat.le_refl _⟩ (fun H locs hN hS _ => ?_)
  refine lv_if_ne (tgt := 13) hx hb dX4_isEligible_8 (by decide) (fun c_1 => ?_) (fun c_2 => ?_)
  · skip
    have c_1 := zBi_n0.mp c_1
    obtain ⟨k, hk, rfl⟩ := zIn_of (by omega) c_1
    have hc_k : (nI k).toNatClampNeg = k := nI_clamp (by omega)
    refine lv_aload_n hx hb dX4_isEligible_13 rfl (lv_at hl 0 rfl) ?_
    refine z_getF (v := .ref (ad 0)) hx hb hts hown in_X4_isEligible_X4 hK hN 0 (by decide) rfl (hts _ (List.mem_of_getElem? (i := 1) (by decide +kernel))) rfl dX4_isEligible_14 ?_
    refine z_getO (v := .ref (ad 1)) hx hb hts hown in_X4_isEligible_X1 hK hN 0 (by decide) rfl (hts _ (List.mem_of_getElem? (i := 2) (by decide +kernel))) rfl dX4_isEligible_17 ?_
    refine lv_iload_n hx hb dX4_isEligible_20 rfl (lv_at hl 1 rfl) ?_
    refine z_aald (i := k) hx hb hK hN rfl (by omega) dX4_isEligible_21 ?_
    refine lv_astore_n (lv' := [(2, .ref (ad (3 + k))), (0, .ref (ma 0)), (1, .int (nI k))]) hx hb dX4_isEligible_22 rfl hl (by decide) rfl (fun ls hl => ?_)
    refine lv_aload_n hx hb dX4_isEligible_23 rfl (lv_at hl 0 rfl) ?_
    refine z_getS (v := .int (zBi (τ 3 k = 1))) hx hb hts hown in_X4_isEligible_X3 hK hN12 hN (by omega) 3 (by decide) rfl (hts _ (List.mem_of_getElem? (i := 3) (by decide +kernel))) rfl dX4_isEligible_24 ?_
    refine lv_if_eq (tgt := 51) hx hb dX4_isEligible_27 (by decide) (fun c_3 => ?_) (fun c_4 => ?_)
    · skip
      have c_3 := zBi_0.mp c_3
      refine lv_iconst (v := 0) hx hb dX4_isEligible_51 (by decide) ?_
      exact z_iretE hx hb hr hlk hK hS (zIr_n (by first | assumption | (simp only [zBi, c_1, hc_k, c_3, eq_self, ne_eq, not_true_eq_false, not_false_eq_true, and_true, true_and, and_self, and_false, false_and, true_or, or_true, false_or, or_false, reduceIte]; done) | (simp [zBi, c_1, hc_k, c_3]; done) | grind) (by first | rfl | (simp only [zBi, c_1, hc_k, c_3, eq_self, ne_eq, not_true_eq_false, not_false_eq_true, and_true, true_and, and_self, and_false, false_and, true_or, or_true, false_or, or_false, reduceIte]; done) | (simp [zBi, c_1, hc_k, c_3]; done))) (zIf_n (by first | assumption | (simp only [zBi, c_1, hc_k, c_3, eq_self, ne_eq, not_true_eq_false, not_false_eq_true, and_true, true_and, and_self, and_false, false_and, true_or, or_true, false_or, or_false, reduceIte]; done) | (simp [zBi, c_1, hc_k, c_3]; done) | grind) (by first | exact hN | (simpa only [zBi, c_1, hc_k, c_3, eq_self, ne_eq, not_true_eq_false, not_false_eq_true, and_true, true_and, and_self, and_false, false_and, true_or, or_true, false_or, or_false, reduceIte] using hN) | (simpa [zBi, c_1, hc_k, c_3] using hN))) dX4_isEligible_52
    · skip
      have c_4 := zBi_n0.mp c_4
      refine lv_aload_n hx hb dX4_isEligible_30 rfl (lv_at hl 0 rfl) ?_
      refine z_getS (v := .int (zBi (τ 4 k = 1))) hx hb hts hown in_X4_isEligible_X3 hK hN12 hN (by omega) 4 (by decide) rfl (hts _ (List.mem_of_getElem? (i := 4) (by decide +kernel))) rfl dX4_isEligible_31 ?_
      refine lv_if_ne (tgt := 47) hx hb dX4_isEligible_34 (by decide) (fun c_5 => ?_) (fun c_6 => ?_)
      · skip
        have c_5 := zBi_n0.mp c_5
        refine lv_iconst (v := 1) hx hb dX4_isEligible_47 (by decide) ?_
        refine lv_goto (tgt := 52) hx hb dX4_isEligible_48 (by decide) ?_
        exact z_iretE hx hb hr hlk hK hS (zIr_n (by first | assumption | (simp only [zBi, c_1, hc_k, c_4, c_5, eq_self, ne_eq, not_true_eq_false, not_false_eq_true, and_true, true_and, and_self, and_false, false_and, true_or, or_true, false_or, or_false, reduceIte]; done) | (simp [zBi, c_1, hc_k, c_4, c_5]; done) | grind) (by first | rfl | (simp only [zBi, c_1, hc_k, c_4, c_5, eq_self, ne_eq, not_true_eq_false, not_false_eq_true, and_true, true_and, and_self, and_false, false_and, true_or, or_true, false_or, or_false, reduceIte]; done) | (simp [zBi, c_1, hc_k, c_4, c_5]; done))) (zIf_n (by first | assumption | (simp only [zBi, c_1, hc_k, c_4, c_5, eq_self, ne_eq, not_true_eq_false, not_false_eq_true, and_true, true_and, and_self, and_false, false_and, true_or, or_true, false_or, or_false, reduceIte]; done) | (simp [zBi, c_1, hc_k, c_4, c_5]; done) | grind) (by first | exact hN | (simpa only [zBi, c_1, hc_k, c_4, c_5, eq_self, ne_eq, not_true_eq_false, not_false_eq_true, and_true, true_and, and_self, and_false, false_and, true_or, or_true, false_or, or_false, reduceIte] using hN) | (simpa [zBi, c_1, hc_k, c_4, c_5] using hN))) dX4_isEligible_52
      · skip
        have c_6 := zBi_0.mp c_6
        refine lv_aload_n hx hb dX4_isEligible_37 rfl (lv_at hl 1 rfl) ?_
        refine z_getF (v := .ref (ad 0)) hx hb hts hown in_X4_isEligible_X4 hK hN 0 (by decide) rfl (hts _ (List.mem_of_getElem? (i := 1) (by decide +kernel))) rfl dX4_isEligible_38 ?_
        refine z_vi (As := []) (rest := []) (P2 := zNA G ad n 12 g (zRest G ad na ma π d fl T) τ) (r := zPh g τ) S (c_X1_phase l G (zAll ad na ma) ad n 12 g (zRest G ad na ma π d fl T) hA (by omega) hN12 hd3 τ ) (cwV 0 hts gX4_isEligible_X1_phase rfl rfl rfl (by decide +kernel) ⟨Nat.le_of_ble_eq_true rfl, Nat.le_of_ble_eq_true rfl⟩) (z_recN hK hN) hN hK hS (fun _ _ h => h) (fun _ h => h) hl.1 rfl rfl (Nat.le_of_ble_eq_true rfl) dX4_isEligible_41 ⟨Nat.le_refl _, Nat.le_refl _⟩ (fun H locs hN hS _ => ?_)
        refine lv_if_ne (tgt := 51) hx hb dX4_isEligible_44 (by decide) (fun c_7 => ?_) (fun c_8 => ?_)
        · skip
          refine lv_iconst (v := 0) hx hb dX4_isEligible_51 (by decide) ?_
          exact z_iretE hx hb hr hlk hK hS (zIr_n (by first | assumption | (simp only [zBi, c_1, hc_k, c_4, c_6, c_7, eq_self, ne_eq, not_true_eq_false, not_false_eq_true, and_true, true_and, and_self, and_false, false_and, true_or, or_true, false_or, or_false, reduceIte]; done) | (simp [zBi, c_1, hc_k, c_4, c_6, c_7]; done) | grind) (by first | rfl | (simp only [zBi, c_1, hc_k, c_4, c_6, c_7, eq_self, ne_eq, not_true_eq_false, not_false_eq_true, and_true, true_and, and_self, and_false, false_and, true_or, or_true, false_or, or_false, reduceIte]; done) | (simp [zBi, c_1, hc_k, c_4, c_6, c_7]; done))) (zIf_n (by first | assumption | (simp only [zBi, c_1, hc_k, c_4, c_6, c_7, eq_self, ne_eq, not_true_eq_false, not_false_eq_true, and_true, true_and, and_self, and_false, false_and, true_or, or_true, false_or, or_false, reduceIte]; done) | (simp [zBi, c_1, hc_k, c_4, c_6, c_7]; done) | grind) (by first | exact hN | (simpa only [zBi, c_1, hc_k, c_4, c_6, c_7, eq_self, ne_eq, not_true_eq_false, not_false_eq_true, and_true, true_and, and_self, and_false, false_and, true_or, or_true, false_or, or_false, reduceIte] using hN) | (simpa [zBi, c_1, hc_k, c_4, c_6, c_7] using hN))) dX4_isEligible_52
        · skip
          refine lv_iconst (v := 1) hx hb dX4_isEligible_47 (by decide) ?_
          refine lv_goto (tgt := 52) hx hb dX4_isEligible_48 (by decide) ?_
          exact z_iretE hx hb hr hlk hK hS (zIr_n (by first | assumption | (simp only [zBi, c_1, hc_k, c_4, c_6, c_8, eq_self, ne_eq, not_true_eq_false, not_false_eq_true, and_true, true_and, and_self, and_false, false_and, true_or, or_true, false_or, or_false, reduceIte]; done) | (simp [zBi, c_1, hc_k, c_4, c_6, c_8]; done) | grind) (by first | rfl | (simp only [zBi, c_1, hc_k, c_4, c_6, c_8, eq_self, ne_eq, not_true_eq_false, not_false_eq_true, and_true, true_and, and_self, and_false, false_and, true_or, or_true, false_or, or_false, reduceIte]; done) | (simp [zBi, c_1, hc_k, c_4, c_6, c_8]; done))) (zIf_n (by first | assumption | (simp only [zBi, c_1, hc_k, c_4, c_6, c_8, eq_self, ne_eq, not_true_eq_false, not_false_eq_true, and_true, true_and, and_self, and_false, false_and, true_or, or_true, false_or, or_false, reduceIte]; done) | (simp [zBi, c_1, hc_k, c_4, c_6, c_8]; done) | grind) (by first | exact hN | (simpa only [zBi, c_1, hc_k, c_4, c_6, c_8, eq_self, ne_eq, not_true_eq_false, not_false_eq_true, and_true, true_and, and_self, and_false, false_and, true_or, or_true, false_or, or_false, reduceIte] using hN) | (simpa [zBi, c_1, hc_k, c_4, c_6, c_8] using hN))) dX4_isEligible_52
  · skip
    have c_2 := zBi_0.mp c_2
    refine lv_iconst (v := -1) hx hb dX4_isEligible_11 (by decide) ?_
    exact z_iretE hx hb hr hlk hK hS (zIr_t (by first | assumption | (simp only [zBi, c_2, eq_self, ne_eq, not_true_eq_false, not_false_eq_true, and_true, true_and, and_self, and_false, false_and, true_or, or_true, false_or, or_false, reduceIte]; done) | (simp [zBi, c_2]; done) | grind) (by first | rfl | (simp only [zBi, c_2, eq_self, ne_eq, not_true_eq_false, not_false_eq_true, and_true, true_and, and_self, and_false, false_and, true_or, or_true, false_or, or_false, reduceIte]; done) | (simp [zBi, c_2]; done))) (zIf_t (by first | assumption | (simp only [zBi, c_2, eq_self, ne_eq, not_true_eq_false, not_false_eq_true, and_true, true_and, and_self, and_false, false_and, true_or, or_true, false_or, or_false, reduceIte]; done) | (simp [zBi, c_2]; done) | grind) (by first | exact hN | (simpa only [zBi, c_2, eq_self, ne_eq, not_true_eq_false, not_false_eq_true, and_true, true_and, and_self, and_false, false_and, true_or, or_true, false_or, or_false, reduceIte] using hN) | (simpa [zBi, c_2] using hN))) dX4_isEligible_12

theorem in_X4_run_X4 : ∀ w ∈ wsX40, w ∈ wsX4_run := by decide +kernel
set_option maxHeartbeats 4000000 in
set_option maxRecDepth 100000 in
theorem p_X4_run (l : Launch) (G : zG) (ad : Nat → Nat) (na : Nat → Nat → Nat) (ma : Nat → Nat) (hd : zTd ad na ma) (π : Nat → Nat) (hπ : zPi π) (d : Nat) (hd6 : d ≤ 6) (fl : Nat → Int32) (T : Nat → zS3) (n : Nat) (hn12 : n ≤ 12) (g : Nat → Int32) (τ : zT) (hd3 : 0 < g 3) (hd5 : 0 < g 5) (τa : zT) (hr0 : zRp n τa τ) (hg0 : 0 ≤ τa 11 9) (x : Int32) : zMi l G (zAll ad na ma) yX4_run wsX4_run 6 136 [.ref (ma 0), .int x] (zNA G ad n 12 g (zRest G ad na ma π d fl T) τ) (if ¬ (¬ x < 1 ∧ ¬ 50 < x) then -1 else (if zCa n τ = 0 then -2 else nI (zPf n g x.toNatClampNeg τa).1)) (if ¬ (¬ x < 1 ∧ ¬ 50 < x) then (zNA G ad n 12 g (zRest G ad na ma π d fl T) τ) else (if zCa n τ = 0 then (zNA G ad n 12 g (zRest G ad na ma π d fl T) τ) else (fun H => ∃ τ2, zRp n (zPf n g x.toNatClampNeg τa).2 τ2 ∧ zNA G ad n 12 g (zRest G ad na ma (zPp d π) (zPd2 d + 1) fl (va_up T ((zPp d π) (zPd2 d)) (zCpy n g τ (T ((zPp d π) (zPd2 d)))))) τ2 H))) := by
  refine z_met (cc := cX4_run) (maxL := 2) (ret := (some .int)) (by decide) rfl (Nat.le_of_ble_eq_true rfl) ?_
  intro p e s m below meth c ls S hr hlk hnm hN hK hl
  have S : CallFix p m c cX4_run 2 s _ wsX4_run RX4 := S
  obtain ⟨hx, hb, hml, hown, hts⟩ := id S
  have hN12 : 12 ≤ 12 := Nat.le_refl 12
  have hA := zAp_top (G := G) hd π d fl T
  have hS : va_S (zAll ad na ma) s.heap s.heap [] := va_S.rf
  have hl : lv_has ls 2 [(0, .ref (ma 0)), (1, .int x)] := hl
  refine lv_iload_n hx hb dX4_run_0 rfl (lv_at hl 1 rfl) ?_
  refine lv_iconst (v := 1) hx hb dX4_run_1 (by decide) ?_
  refine lv_bipush (v := 50) hx hb dX4_run_2 (by decide) ?_
  refine z_si (As := [.int x, .int 1, .int 50]) (rest := []) (P2 := zNA G ad n 12 g (zRest G ad na ma π d fl T) τ) (r := zBi (¬ x < 1 ∧ ¬ 50 < x)) S (c_X4_inRange l G (zAll ad na ma) (zNA G ad n 12 g (zRest G ad na ma π d fl T) τ) x 1 50) (cwS 3 hts gX4_run_X4_inRange rfl rfl rfl (by decide +kernel) ⟨Nat.le_of_ble_eq_true rfl, Nat.le_of_ble_eq_true rfl⟩) hN hK hS (fun _ _ h => h) (fun _ h => h) hl.1 rfl rfl (Nat.le_of_ble_eq_true rfl) dX4_run_4 ⟨Nat.le_refl _, Nat.le_refl _⟩ (fun H locs hN hS _ => ?_)
  refine lv_if_ne (tgt := 12) hx hb dX4_run_7 (by decide) (fun c_1 => ?_) (fun c_2 => ?_)
  · skip
    have c_1 := zBi_n0.mp c_1
    obtain ⟨lim, hlim1, hlim2, rfl⟩ := zLe_of (a := 1) (b := 50) (by omega) (by omega) c_1
    have hc_lim : (nI lim).toNatClampNeg = lim := nI_clamp (by omega)
    refine lv_aload_n hx hb dX4_run_12 rfl (lv_at hl 0 rfl) ?_
    refine z_getF (v := .ref (ad 0)) hx hb hts hown in_X4_run_X4 hK hN 0 (by decide) rfl (hts _ (List.mem_of_getElem? (i := 1) (by decide +kernel))) rfl dX4_run_13 ?_
    refine z_vi (As := []) (rest := []) (P2 := zNA G ad n 12 g (zRest G ad na ma π d fl T) τ) (r := zCa n τ) S (c_X1_countAlive l G (zAll ad na ma) ad n 12 g (zRest G ad na ma π d fl T) hA (by omega) hN12  τ ) (cwV 0 hts gX4_run_X1_countAlive rfl rfl rfl (by decide +kernel) ⟨Nat.le_of_ble_eq_true rfl, Nat.le_of_ble_eq_true rfl⟩) (z_recN hK hN) hN hK hS (fun _ _ h => h) (fun _ h => h) hl.1 rfl rfl (Nat.le_of_ble_eq_true rfl) dX4_run_16 ⟨Nat.le_refl _, Nat.le_refl _⟩ (fun H locs hN hS _ => ?_)
    refine lv_if_ne (tgt := 25) hx hb dX4_run_19 (by decide) (fun c_3 => ?_) (fun c_4 => ?_)
    · skip
      refine lv_aload_n hx hb dX4_run_25 rfl (lv_at hl 0 rfl) ?_
      refine z_getF (v := .ref (ma 3)) hx hb hts hown in_X4_run_X4 hK hN 4 (by decide) rfl (hts _ (List.mem_of_getElem? (i := 2) (by decide +kernel))) rfl dX4_run_26 ?_
      refine lv_aload_n hx hb dX4_run_29 rfl (lv_at hl 0 rfl) ?_
      refine z_getF (v := .ref (ad 0)) hx hb hts hown in_X4_run_X4 hK hN 0 (by decide) rfl (hts _ (List.mem_of_getElem? (i := 1) (by decide +kernel))) rfl dX4_run_30 ?_
      refine z_vv (As := [.ref (ad 0)]) (rest := []) (P2 := zNA G ad n 12 g (zRest G ad na ma (zPp d π) (zPd2 d + 1) fl (va_up T ((zPp d π) (zPd2 d)) (zCpy n g τ (T ((zPp d π) (zPd2 d)))))) τ) S (h_X0_push l G ad na ma hd π hπ d hd6 fl T n hn12 g τ) (cwV 1 hts gX4_run_X0_push rfl rfl rfl (by decide +kernel) ⟨Nat.le_of_ble_eq_true rfl, Nat.le_of_ble_eq_true rfl⟩) (z_recH hK hN) hN hK hS (fun _ _ h => h) (fun _ h => h) hl.1 rfl rfl (Nat.le_of_ble_eq_true rfl) dX4_run_33 ⟨Nat.le_refl _, Nat.le_refl _⟩ (fun H locs hN hS _ => ?_)
      have hA := zAp_top (G := G) hd (zPp d π) (zPd2 d + 1) fl (va_up T ((zPp d π) (zPd2 d)) (zCpy n g τ (T ((zPp d π) (zPd2 d)))))
      refine lv_aload_n hx hb dX4_run_36 rfl (lv_at hl 0 rfl) ?_
      refine z_getF (v := .ref (ma 1)) hx hb hts hown in_X4_run_X4 hK hN 1 (by decide) rfl (hts _ (List.mem_of_getElem? (i := 3) (by decide +kernel))) rfl dX4_run_37 ?_
      refine lv_iload_n hx hb dX4_run_40 rfl (lv_at hl 1 rfl) ?_
      refine z_vi (As := [.int (nI lim)]) (rest := []) (P2 := (fun H => ∃ τ2, zRp n (zPf n g lim τa).2 τ2 ∧ zNA G ad n 12 g (zRest G ad na ma (zPp d π) (zPd2 d + 1) fl (va_up T ((zPp d π) (zPd2 d)) (zCpy n g τ (T ((zPp d π) (zPd2 d)))))) τ2 H)) (r := nI (zPf n g lim τa).1) S (t_perf_0 hd (zPp d π) (zPd2 d + 1) fl (va_up T ((zPp d π) (zPd2 d)) (zCpy n g τ (T ((zPp d π) (zPd2 d))))) n hn12 g hd3 hd5 τ τa hr0 hg0 lim (by omega)) (cwV 1 hts gX4_run_X2_perform rfl rfl rfl (by decide +kernel) ⟨Nat.le_of_ble_eq_true rfl, Nat.le_of_ble_eq_true rfl⟩) (z_recP1 hK hN) hN hK hS (fun _ _ h => h) (fun _ h => h) hl.1 rfl rfl (Nat.le_of_ble_eq_true rfl) dX4_run_41 ⟨Nat.le_refl _, Nat.le_refl _⟩ (fun H locs hN hS _ => ?_)
      obtain ⟨τ2, hr2, hN⟩ := hN
      exact z_iretE hx hb hr hlk hK hS (zIr_n (by first | assumption | (simp only [c_1, hc_lim, c_3, eq_self, ne_eq, not_true_eq_false, not_false_eq_true, and_true, true_and, and_self, and_false, false_and, true_or, or_true, false_or, or_false, reduceIte]; done) | (simp [c_1, hc_lim, c_3]; done) | grind) (zIr_n (by first | assumption | (simp only [c_1, hc_lim, c_3, eq_self, ne_eq, not_true_eq_false, not_false_eq_true, and_true, true_and, and_self, and_false, false_and, true_or, or_true, false_or, or_false, reduceIte]; done) | (simp [c_1, hc_lim, c_3]; done) | grind) (by first | rfl | (simp only [c_1, hc_lim, c_3, eq_self, ne_eq, not_true_eq_false, not_false_eq_true, and_true, true_and, and_self, and_false, false_and, true_or, or_true, false_or, or_false, reduceIte]; done) | (simp [c_1, hc_lim, c_3]; done)))) (zIf_n (by first | assumption | (simp only [c_1, hc_lim, c_3, eq_self, ne_eq, not_true_eq_false, not_false_eq_true, and_true, true_and, and_self, and_false, false_and, true_or, or_true, false_or, or_false, reduceIte]; done) | (simp [c_1, hc_lim, c_3]; done) | grind) (zIf_n (by first | assumption | (simp only [c_1, hc_lim, c_3, eq_self, ne_eq, not_true_eq_false, not_false_eq_true, and_true, true_and, and_self, and_false, false_and, true_or, or_true, false_or, or_false, reduceIte]; done) | (simp [c_1, hc_lim, c_3]; done) | grind) (by refine ⟨τ2, ?_, hN⟩; rw [hc_lim]; exact hr2))) dX4_run_44
    · skip
      refine lv_bipush (v := -2) hx hb dX4_run_22 (by decide) ?_
      exact z_iretE hx hb hr hlk hK hS (zIr_n (by first | assumption | (simp only [c_1, hc_lim, c_4, eq_self, ne_eq, not_true_eq_false, not_false_eq_true, and_true, true_and, and_self, and_false, false_and, true_or, or_true, false_or, or_false, reduceIte]; done) | (simp [c_1, hc_lim, c_4]; done) | grind) (zIr_t (by first | assumption | (simp only [c_1, hc_lim, c_4, eq_self, ne_eq, not_true_eq_false, not_false_eq_true, and_true, true_and, and_self, and_false, false_and, true_or, or_true, false_or, or_false, reduceIte]; done) | (simp [c_1, hc_lim, c_4]; done) | grind) (by first | rfl | (simp only [c_1, hc_lim, c_4, eq_self, ne_eq, not_true_eq_false, not_false_eq_true, and_true, true_and, and_self, and_false, false_and, true_or, or_true, false_or, or_false, reduceIte]; done) | (simp [c_1, hc_lim, c_4]; done)))) (zIf_n (by first | assumption | (simp only [c_1, hc_lim, c_4, eq_self, ne_eq, not_true_eq_false, not_false_eq_true, and_true, true_and, and_self, and_false, false_and, true_or, or_true, false_or, or_false, reduceIte]; done) | (simp [c_1, hc_lim, c_4]; done) | grind) (zIf_t (by first | assumption | (simp only [c_1, hc_lim, c_4, eq_self, ne_eq, not_true_eq_false, not_false_eq_true, and_true, true_and, and_self, and_false, false_and, true_or, or_true, false_or, or_false, reduceIte]; done) | (simp [c_1, hc_lim, c_4]; done) | grind) (by first | exact hN | (simpa only [c_1, hc_lim, c_4, eq_self, ne_eq, not_true_eq_false, not_false_eq_true, and_true, true_and, and_self, and_false, false_and, true_or, or_true, false_or, or_false, reduceIte] using hN) | (simpa [c_1, hc_lim, c_4] using hN)))) dX4_run_24
  · skip
    have c_2 := zBi_0.mp c_2
    refine lv_iconst (v := -1) hx hb dX4_run_10 (by decide) ?_
    exact z_iretE hx hb hr hlk hK hS (zIr_t (by first | assumption | (simp only [c_2, eq_self, ne_eq, not_true_eq_false, not_false_eq_true, and_true, true_and, and_self, and_false, false_and, true_or, or_true, false_or, or_false, reduceIte]; done) | (simp [c_2]; done) | grind) (by first | rfl | (simp only [c_2, eq_self, ne_eq, not_true_eq_false, not_false_eq_true, and_true, true_and, and_self, and_false, false_and, true_or, or_true, false_or, or_false, reduceIte]; done) | (simp [c_2]; done))) (zIf_t (by first | assumption | (simp only [c_2, eq_self, ne_eq, not_true_eq_false, not_false_eq_true, and_true, true_and, and_self, and_false, false_and, true_or, or_true, false_or, or_false, reduceIte]; done) | (simp [c_2]; done) | grind) (by first | exact hN | (simpa only [c_2, eq_self, ne_eq, not_true_eq_false, not_false_eq_true, and_true, true_and, and_self, and_false, false_and, true_or, or_true, false_or, or_false, reduceIte] using hN) | (simpa [c_2] using hN))) dX4_run_11

