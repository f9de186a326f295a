/-! rows laid by my own program (wip/whole/gen) -/
theorem in_X3_distanceTo_X3 : ∀ w ∈ wsX30, w ∈ wsX3_distanceTo := by decide +kernel
set_option maxHeartbeats 4000000 in
set_option maxRecDepth 100000 in
theorem c_X3_distanceTo (l : Launch) (G : zG) (A : Nat → Prop) (ad : Nat → Nat) (n N : Nat) (g : Nat → Int32) (X : va_W) (hA : zAp G ad X A) (hnN : n ≤ N) (hN12 : N ≤ 12) (τ : zT) (i : Nat) (hi : i < N) (x y : Int32) : zMi l G A yX3_distanceTo wsX3_distanceTo 0 0 [.ref (ad (3 + i)), .int x, .int y] (zNA G ad n N g X τ) (zDi (τ 0 i) (τ 1 i) x y) (zNA G ad n N g X τ) := by
  refine z_met (cc := cX3_distanceTo) (maxL := 5) (ret := (some .int)) (by decide) rfl (Nat.le_of_ble_eq_true rfl) ?_
  intro p e s m below meth c ls S hr hlk hnm hN hK hl
  have S : CallFix p m c cX3_distanceTo 5 s _ wsX3_distanceTo RX3 := S
  obtain ⟨hx, hb, hml, hown, hts⟩ := id S
  have hS : va_S A s.heap s.heap [] := va_S.rf
  have hl : lv_has ls 5 [(0, .ref (ad (3 + i))), (1, .int x), (2, .int y)] := hl
  refine lv_aload_n hx hb dX3_distanceTo_0 rfl (lv_at hl 0 rfl) ?_
  refine z_getS (v := .int (τ 0 i)) hx hb hts hown in_X3_distanceTo_X3 hK hN12 hN (by omega) 0 (by decide) rfl (hts _ (List.mem_of_getElem? (i := 1) (by decide +kernel))) rfl dX3_distanceTo_1 ?_
  refine lv_iload_n hx hb dX3_distanceTo_4 rfl (lv_at hl 1 rfl) ?_
  refine lv_isub hx hb dX3_distanceTo_5 ?_
  refine lv_istore_n (lv' := [(3, .int ((τ 0 i) - x)), (0, .ref (ad (3 + i))), (1, .int x), (2, .int y)]) hx hb dX3_distanceTo_6 rfl hl (by decide) rfl (fun ls hl => ?_)
  refine lv_aload_n hx hb dX3_distanceTo_7 rfl (lv_at hl 1 rfl) ?_
  refine z_getS (v := .int (τ 1 i)) hx hb hts hown in_X3_distanceTo_X3 hK hN12 hN (by omega) 1 (by decide) rfl (hts _ (List.mem_of_getElem? (i := 2) (by decide +kernel))) rfl dX3_distanceTo_8 ?_
  refine lv_iload_n hx hb dX3_distanceTo_11 rfl (lv_at hl 3 rfl) ?_
  refine lv_isub hx hb dX3_distanceTo_12 ?_
  refine lv_istore (lv' := [(4, .int ((τ 1 i) - y)), (3, .int ((τ 0 i) - x)), (0, .ref (ad (3 + i))), (1, .int x), (2, .int y)]) hx hb dX3_distanceTo_13 hl (by decide) rfl (fun ls hl => ?_)
  refine lv_iload_n hx hb dX3_distanceTo_15 rfl (lv_at hl 1 rfl) ?_
  refine lv_iload_n hx hb dX3_distanceTo_16 rfl (lv_at hl 1 rfl) ?_
  refine lv_imul hx hb dX3_distanceTo_17 ?_
  refine lv_iload hx hb dX3_distanceTo_18 (lv_at hl 0 rfl) ?_
  refine lv_iload hx hb dX3_distanceTo_20 (lv_at hl 0 rfl) ?_
  refine lv_imul hx hb dX3_distanceTo_22 ?_
  refine lv_iadd hx hb dX3_distanceTo_23 ?_
  refine z_top (x2 := zDi (τ 0 i) (τ 1 i) x y) (by first | with_reducible rfl | (simp only [zDi, eq_self, ne_eq, not_true_eq_false, not_false_eq_true, and_true, true_and, and_self, and_false, false_and, true_or, or_true, false_or, or_false, reduceIte]; done) | (simp [zDi]; done) | rfl | (simp_all [zDi]; done)) ?_
  exact z_iret hx hb hr hlk hK hS (hN) dX3_distanceTo_24

theorem in_X3_beginRound_X3 : ∀ w ∈ wsX30, w ∈ wsX3_beginRound := by decide +kernel
set_option maxHeartbeats 4000000 in
set_option maxRecDepth 100000 in
theorem c_X3_beginRound (l : Launch) (G : zG) (A : Nat → Prop) (ad : Nat → Nat) (n N : Nat) (g : Nat → Int32) (X : va_W) (hA : zAp G ad X A) (hnN : n ≤ N) (hN12 : N ≤ 12) (τ : zT) (i : Nat) (hi : i < 12) : zMv l G A yX3_beginRound wsX3_beginRound 0 0 [.ref (ad (3 + i))] (zNA G ad n N g X τ) (zNA G ad n N g X (zBr τ i)) := by
  refine z_met (cc := cX3_beginRound) (maxL := 1) (ret := none) (by decide) rfl (Nat.le_of_ble_eq_true rfl) ?_
  intro p e s m below meth c ls S hr hlk hnm hN hK hl
  have S : CallFix p m c cX3_beginRound 1 s _ wsX3_beginRound RX3 := S
  obtain ⟨hx, hb, hml, hown, hts⟩ := id S
  have hS : va_S A s.heap s.heap [] := va_S.rf
  have hl : lv_has ls 1 [(0, .ref (ad (3 + i)))] := hl
  refine lv_aload_n hx hb dX3_beginRound_0 rfl (lv_at hl 0 rfl) ?_
  refine lv_bipush (v := -9) hx hb dX3_beginRound_1 (by decide) ?_
  refine z_putS (v := .int (-9)) (w := -9) (ty := .int) hx hb hts hown in_X3_beginRound_X3 hK hA hS hN (by omega) 7 7 (by decide) rfl (by decide) (hts _ (List.mem_of_getElem? (i := 1) (by decide +kernel))) (by decide +kernel) rfl rfl rfl (fun τ => zSet7 τ _ _) dX3_beginRound_3 (fun H locs hN hS => ?_)
  refine lv_aload_n hx hb dX3_beginRound_6 rfl (lv_at hl 0 rfl) ?_
  refine lv_bipush (v := -9) hx hb dX3_beginRound_7 (by decide) ?_
  refine z_putS (v := .int (-9)) (w := -9) (ty := .int) hx hb hts hown in_X3_beginRound_X3 hK hA hS hN (by omega) 8 8 (by decide) rfl (by decide) (hts _ (List.mem_of_getElem? (i := 2) (by decide +kernel))) (by decide +kernel) rfl rfl rfl (fun τ => zSet8 τ _ _) dX3_beginRound_9 (fun H locs hN hS => ?_)
  refine lv_aload_n hx hb dX3_beginRound_12 rfl (lv_at hl 0 rfl) ?_
  refine lv_iconst (v := 0) hx hb dX3_beginRound_13 (by decide) ?_
  refine z_putS (v := .int 0) (w := 0) (ty := .boolean) hx hb hts hown in_X3_beginRound_X3 hK hA hS hN (by omega) 9 10 (by decide) rfl (by decide) (hts _ (List.mem_of_getElem? (i := 3) (by decide +kernel))) (by decide +kernel) (by decide) (by decide) rfl (fun τ => zSet9 τ _ (by decide)) dX3_beginRound_14 (fun H locs hN hS => ?_)
  refine lv_aload_n hx hb dX3_beginRound_17 rfl (lv_at hl 0 rfl) ?_
  refine lv_iconst (v := 0) hx hb dX3_beginRound_18 (by decide) ?_
  refine z_putS (v := .int 0) (w := 0) (ty := .int) hx hb hts hown in_X3_beginRound_X3 hK hA hS hN (by omega) 10 9 (by decide) rfl (by decide) (hts _ (List.mem_of_getElem? (i := 4) (by decide +kernel))) (by decide +kernel) rfl rfl rfl (fun τ => zSet10 τ _ _) dX3_beginRound_19 (fun H locs hN hS => ?_)
  exact z_vret hx hb hr hlk hK hS (hN.cast (by first | with_reducible rfl | (simp only [zBr, eq_self, ne_eq, not_true_eq_false, not_false_eq_true, and_true, true_and, and_self, and_false, false_and, true_or, or_true, false_or, or_false, reduceIte]; done) | (simp [zBr]; done) | rfl | (simp_all [zBr]; done))) dX3_beginRound_22

theorem in_X1_has_X1 : ∀ w ∈ wsX10, w ∈ wsX1_has := by decide +kernel
set_option maxHeartbeats 4000000 in
set_option maxRecDepth 100000 in
theorem c_X1_has (l : Launch) (G : zG) (A : Nat → Prop) (ad : Nat → Nat) (n N : Nat) (g : Nat → Int32) (X : va_W) (hA : zAp G ad X A) (hnN : n ≤ N) (hN12 : N ≤ 12) (τ : zT) (x : Int32) : zMi l G A yX1_has wsX1_has 0 0 [.ref (ad 0), .int x] (zNA G ad n N g X τ) (zBi (¬ x < 0 ∧ x < nI n)) (zNA G ad n N g X τ) := by
  refine z_met (cc := cX1_has) (maxL := 2) (ret := (some .boolean)) (by decide) rfl (Nat.le_of_ble_eq_true rfl) ?_
  intro p e s m below meth c ls S hr hlk hnm hN hK hl
  have S : CallFix p m c cX1_has 2 s _ wsX1_has RX1 := S
  obtain ⟨hx, hb, hml, hown, hts⟩ := id S
  have hS : va_S A s.heap s.heap [] := va_S.rf
  have hl : lv_has ls 2 [(0, .ref (ad 0)), (1, .int x)] := hl
  refine lv_iload_n hx hb dX1_has_0 rfl (lv_at hl 1 rfl) ?_
  refine lv_if_lt (tgt := 16) hx hb dX1_has_1 (by decide) (fun c_1 => ?_) (fun c_2 => ?_)
  · skip
    refine lv_iconst (v := 0) hx hb dX1_has_16 (by decide) ?_
    refine z_top (x2 := zBi (¬ x < 0 ∧ x < nI n)) (by first | with_reducible rfl | (simp only [zBi, c_1, eq_self, ne_eq, not_true_eq_false, not_false_eq_true, and_true, true_and, and_self, and_false, false_and, true_or, or_true, false_or, or_false, reduceIte]; done) | (simp [zBi, c_1]; done) | rfl | (simp_all [zBi]; done)) ?_
    exact z_zret hx hb hr hlk zBi_nar hK hS (hN) dX1_has_17
  · skip
    refine lv_iload_n hx hb dX1_has_4 rfl (lv_at hl 1 rfl) ?_
    refine lv_aload_n hx hb dX1_has_5 rfl (lv_at hl 0 rfl) ?_
    refine z_getO (v := .int (nI n)) hx hb hts hown in_X1_has_X1 hK hN 2 (by decide) rfl (hts _ (List.mem_of_getElem? (i := 1) (by decide +kernel))) rfl dX1_has_6 ?_
    refine lv_icmp_ge (tgt := 16) hx hb dX1_has_9 (by decide) (fun c_3 => ?_) (fun c_4 => ?_)
    · skip
      have c_3 := Int32.not_lt.mpr c_3
      refine lv_iconst (v := 0) hx hb dX1_has_16 (by decide) ?_
      refine z_top (x2 := zBi (¬ x < 0 ∧ x < nI n)) (by first | with_reducible rfl | (simp only [zBi, c_2, c_3, eq_self, ne_eq, not_true_eq_false, not_false_eq_true, and_true, true_and, and_self, and_false, false_and, true_or, or_true, false_or, or_false, reduceIte]; done) | (simp [zBi, c_2, c_3]; done) | rfl | (simp_all [zBi]; done)) ?_
      exact z_zret hx hb hr hlk zBi_nar hK hS (hN) dX1_has_17
    · skip
      have c_4 := Int32.not_le.mp c_4
      refine lv_iconst (v := 1) hx hb dX1_has_12 (by decide) ?_
      refine lv_goto (tgt := 17) hx hb dX1_has_13 (by decide) ?_
      refine z_top (x2 := zBi (¬ x < 0 ∧ x < nI n)) (by first | with_reducible rfl | (simp only [zBi, c_2, c_4, eq_self, ne_eq, not_true_eq_false, not_false_eq_true, and_true, true_and, and_self, and_false, false_and, true_or, or_true, false_or, or_false, reduceIte]; done) | (simp [zBi, c_2, c_4]; done) | rfl | (simp_all [zBi]; done)) ?_
      exact z_zret hx hb hr hlk zBi_nar hK hS (hN) dX1_has_17

theorem in_X1_phase_X1 : ∀ w ∈ wsX10, w ∈ wsX1_phase := by decide +kernel
set_option maxHeartbeats 4000000 in
set_option maxRecDepth 100000 in
theorem c_X1_phase (l : Launch) (G : zG) (A : Nat → Prop) (ad : Nat → Nat) (n N : Nat) (g : Nat → Int32) (X : va_W) (hA : zAp G ad X A) (hnN : n ≤ N) (hN12 : N ≤ 12) (hd3 : 0 < g 3) (τ : zT) : zMi l G A yX1_phase wsX1_phase 0 0 [.ref (ad 0)] (zNA G ad n N g X τ) (zPh g τ) (zNA G ad n N g X τ) := by
  refine z_met (cc := cX1_phase) (maxL := 2) (ret := (some .int)) (by decide) rfl (Nat.le_of_ble_eq_true rfl) ?_
  intro p e s m below meth c ls S hr hlk hnm hN hK hl
  have S : CallFix p m c cX1_phase 2 s _ wsX1_phase RX1 := S
  obtain ⟨hx, hb, hml, hown, hts⟩ := id S
  have hS : va_S A s.heap s.heap [] := va_S.rf
  have hl : lv_has ls 2 [(0, .ref (ad 0))] := hl
  refine lv_aload_n hx hb dX1_phase_0 rfl (lv_at hl 0 rfl) ?_
  refine z_getO (v := .ref (ad 2)) hx hb hts hown in_X1_phase_X1 hK hN 1 (by decide) rfl (hts _ (List.mem_of_getElem? (i := 1) (by decide +kernel))) rfl dX1_phase_1 ?_
  refine lv_iconst (v := 0) hx hb dX1_phase_4 (by decide) ?_
  refine z_iald (w := g 3) hx hb hK hN 0 (by decide) (by decide) rfl dX1_phase_5 ?_
  refine lv_istore_n (lv' := [(1, .int (g 3)), (0, .ref (ad 0))]) hx hb dX1_phase_6 rfl hl (by decide) rfl (fun ls hl => ?_)
  refine lv_iload_n hx hb dX1_phase_7 rfl (lv_at hl 0 rfl) ?_
  refine lv_if_le (tgt := 20) hx hb dX1_phase_8 (by decide) (fun c_1 => ?_) (fun c_2 => ?_)
  · skip
    have c_1 := Int32.not_lt.mpr c_1
    exact absurd hd3 c_1
  · skip
    have c_2 := Int32.not_le.mp c_2
    refine lv_aload_n hx hb dX1_phase_11 rfl (lv_at hl 1 rfl) ?_
    refine z_getO (v := .int (τ 11 10)) hx hb hts hown in_X1_phase_X1 hK hN 6 (by decide) rfl (hts _ (List.mem_of_getElem? (i := 2) (by decide +kernel))) rfl dX1_phase_12 ?_
    refine lv_iload_n hx hb dX1_phase_15 rfl (lv_at hl 0 rfl) ?_
    refine lv_irem hx hb dX1_phase_16 (fun q => absurd hd3 (by rw [q]; decide)) ?_
    refine lv_goto (tgt := 21) hx hb dX1_phase_17 (by decide) ?_
    refine z_top (x2 := zPh g τ) (by first | with_reducible rfl | (simp only [zPh, c_2, eq_self, ne_eq, not_true_eq_false, not_false_eq_true, and_true, true_and, and_self, and_false, false_and, true_or, or_true, false_or, or_false, reduceIte]; done) | (simp [zPh, c_2]; done) | rfl | (simp_all [zPh]; done)) ?_
    exact z_iret hx hb hr hlk hK hS (hN) dX1_phase_21

theorem in_X1_costOver_X1 : ∀ w ∈ wsX10, w ∈ wsX1_costOver := by decide +kernel
set_option maxHeartbeats 4000000 in
set_option maxRecDepth 100000 in
theorem c_X1_costOver (l : Launch) (G : zG) (A : Nat → Prop) (ad : Nat → Nat) (n N : Nat) (g : Nat → Int32) (X : va_W) (hA : zAp G ad X A) (hnN : n ≤ N) (hN12 : N ≤ 12) (hd5 : 0 < g 5) (τ : zT) (d : Int32) : zMi l G A yX1_costOver wsX1_costOver 0 0 [.ref (ad 0), .int d] (zNA G ad n N g X τ) (zCo g d) (zNA G ad n N g X τ) := by
  refine z_met (cc := cX1_costOver) (maxL := 3) (ret := (some .int)) (by decide) rfl (Nat.le_of_ble_eq_true rfl) ?_
  intro p e s m below meth c ls S hr hlk hnm hN hK hl
  have S : CallFix p m c cX1_costOver 3 s _ wsX1_costOver RX1 := S
  obtain ⟨hx, hb, hml, hown, hts⟩ := id S
  have hS : va_S A s.heap s.heap [] := va_S.rf
  have hl : lv_has ls 3 [(0, .ref (ad 0)), (1, .int d)] := hl
  refine lv_aload_n hx hb dX1_costOver_0 rfl (lv_at hl 0 rfl) ?_
  refine z_getO (v := .ref (ad 2)) hx hb hts hown in_X1_costOver_X1 hK hN 1 (by decide) rfl (hts _ (List.mem_of_getElem? (i := 1) (by decide +kernel))) rfl dX1_costOver_1 ?_
  refine lv_iconst (v := 2) hx hb dX1_costOver_4 (by decide) ?_
  refine z_iald (w := g 5) hx hb hK hN 2 (by decide) (by decide) rfl dX1_costOver_5 ?_
  refine lv_istore_n (lv' := [(2, .int (g 5)), (0, .ref (ad 0)), (1, .int d)]) hx hb dX1_costOver_6 rfl hl (by decide) rfl (fun ls hl => ?_)
  refine lv_aload_n hx hb dX1_costOver_7 rfl (lv_at hl 1 rfl) ?_
  refine z_getO (v := .ref (ad 2)) hx hb hts hown in_X1_costOver_X1 hK hN 1 (by decide) rfl (hts _ (List.mem_of_getElem? (i := 1) (by decide +kernel))) rfl dX1_costOver_8 ?_
  refine lv_iconst (v := 1) hx hb dX1_costOver_11 (by decide) ?_
  refine z_iald (w := g 4) hx hb hK hN 1 (by decide) (by decide) rfl dX1_costOver_12 ?_
  refine lv_iload_n hx hb dX1_costOver_13 rfl (lv_at hl 0 rfl) ?_
  refine lv_if_le (tgt := 23) hx hb dX1_costOver_14 (by decide) (fun c_1 => ?_) (fun c_2 => ?_)
  · skip
    have c_1 := Int32.not_lt.mpr c_1
    exact absurd hd5 c_1
  · skip
    have c_2 := Int32.not_le.mp c_2
    refine lv_iload_n hx hb dX1_costOver_17 rfl (lv_at hl 2 rfl) ?_
    refine lv_iload_n hx hb dX1_costOver_18 rfl (lv_at hl 0 rfl) ?_
    refine lv_idiv hx hb dX1_costOver_19 (fun q => absurd hd5 (by rw [q]; decide)) ?_
    refine lv_goto (tgt := 24) hx hb dX1_costOver_20 (by decide) ?_
    refine lv_iadd hx hb dX1_costOver_24 ?_
    refine z_top (x2 := zCo g d) (by first | with_reducible rfl | (simp only [zCo, c_2, eq_self, ne_eq, not_true_eq_false, not_false_eq_true, and_true, true_and, and_self, and_false, false_and, true_or, or_true, false_or, or_false, reduceIte]; done) | (simp [zCo, c_2]; done) | rfl | (simp_all [zCo]; done)) ?_
    exact z_iret hx hb hr hlk hK hS (hN) dX1_costOver_25

theorem in_X1_countAlive_X1 : ∀ w ∈ wsX10, w ∈ wsX1_countAlive := by decide +kernel
theorem in_X1_countAlive_X3 : ∀ w ∈ wsX30, w ∈ wsX1_countAlive := by decide +kernel
set_option maxHeartbeats 4000000 in
set_option maxRecDepth 100000 in
theorem c_X1_countAlive (l : Launch) (G : zG) (A : Nat → Prop) (ad : Nat → Nat) (n N : Nat) (g : Nat → Int32) (X : va_W) (hA : zAp G ad X A) (hnN : n ≤ N) (hN12 : N ≤ 12) (τ : zT) : zMi l G A yX1_countAlive wsX1_countAlive 0 0 [.ref (ad 0)] (zNA G ad n N g X τ) (zCa n τ) (zNA G ad n N g X τ) := by
  refine z_met (cc := cX1_countAlive) (maxL := 3) (ret := (some .int)) (by decide) rfl (Nat.le_of_ble_eq_true rfl) ?_
  intro p e s m below meth c ls S hr hlk hnm hN hK hl
  have S : CallFix p m c cX1_countAlive 3 s _ wsX1_countAlive RX1 := S
  obtain ⟨hx, hb, hml, hown, hts⟩ := id S
  have hS : va_S A s.heap s.heap [] := va_S.rf
  have hl : lv_has ls 3 [(0, .ref (ad 0))] := hl
  refine lv_iconst (v := 0) hx hb dX1_countAlive_0 (by decide) ?_
  refine lv_istore_n (lv' := [(1, .int 0), (0, .ref (ad 0))]) hx hb dX1_countAlive_1 rfl hl (by decide) rfl (fun ls hl => ?_)
  refine lv_iconst (v := 0) hx hb dX1_countAlive_2 (by decide) ?_
  refine lv_istore_n (lv' := [(2, .int 0), (1, .int 0), (0, .ref (ad 0))]) hx hb dX1_countAlive_3 rfl hl (by decide) rfl (fun ls hl => ?_)
  have loop1 : ∀ (f1 k : Nat) (H : Heap) (locs : List Loc) (ls : Array Slot), k ≤ n → n < k + f1 → zNA G ad n N g X τ H → va_S A s.heap H locs → lv_has ls 3 [(2, .int (nI k)), (1, .int (zIt (zCaS τ) k (0 : Int32))), (0, .ref (ad 0))] → W p l e ({ frames := 0, cells := 0, slots := 0, locals := 0 } : Room) s m ([.ref (ad 0)] : List Value).toArray below meth c H locs 0 0 (MQ below (zQi G (zCa n τ) (zNA G ad n N g X τ) A) ([.ref (ad 0)] : List Value).toArray s 0 0 A) (F0 m 4 ls []) := by
    intro f1
    induction f1 with
    | zero => intro k H locs ls h1 h2; exact absurd h2 (by omega)
    | succ f1 ih1 =>
      intro k H locs ls hk1 hf1 hN hS hl
      generalize hF_v : zIt (zCaS τ) k (0 : Int32) = v at hN hl 
      refine lv_iload_n hx hb dX1_countAlive_4 rfl (lv_at hl 0 rfl) ?_
      refine lv_aload_n hx hb dX1_countAlive_5 rfl (lv_at hl 2 rfl) ?_
      refine z_getO (v := .int (nI n)) hx hb hts hown in_X1_countAlive_X1 hK hN 2 (by decide) rfl (hts _ (List.mem_of_getElem? (i := 1) (by decide +kernel))) rfl dX1_countAlive_6 ?_
      refine lv_icmp_ge (tgt := 33) hx hb dX1_countAlive_9 (by decide) (fun c_1 => ?_) (fun c_2 => ?_)
      · skip
        have c_1 := (z_leI (a := n) (b := k) (by omega) (by omega)).mp c_1
        have hkn1 : k = n := by omega
        rw [hkn1] at hF_v
        subst hF_v
        refine lv_iload_n hx hb dX1_countAlive_33 rfl (lv_at hl 1 rfl) ?_
        refine z_top (x2 := zCa n τ) (by first | with_reducible rfl | (simp only [zCa, c_1, eq_self, ne_eq, not_true_eq_false, not_false_eq_true, and_true, true_and, and_self, and_false, false_and, true_or, or_true, false_or, or_false, reduceIte]; done) | (simp [zCa, c_1]; done) | rfl | (simp_all [zCa]; done)) ?_
        exact z_iret hx hb hr hlk hK hS (hN) dX1_countAlive_34
      · skip
        have c_2 := (not_congr (z_leI (a := n) (b := k) (by omega) (by omega))).mp c_2
        refine lv_aload_n hx hb dX1_countAlive_12 rfl (lv_at hl 2 rfl) ?_
        refine z_getO (v := .ref (ad 1)) hx hb hts hown in_X1_countAlive_X1 hK hN 0 (by decide) rfl (hts _ (List.mem_of_getElem? (i := 2) (by decide +kernel))) rfl dX1_countAlive_13 ?_
        refine lv_iload_n hx hb dX1_countAlive_16 rfl (lv_at hl 0 rfl) ?_
        refine z_aald (i := k) hx hb hK hN rfl (by omega) dX1_countAlive_17 ?_
        refine z_getS (v := .int (zBi (τ 3 k = 1))) hx hb hts hown in_X1_countAlive_X3 hK hN12 hN (by omega) 3 (by decide) rfl (hts _ (List.mem_of_getElem? (i := 3) (by decide +kernel))) rfl dX1_countAlive_18 ?_
        refine lv_if_eq (tgt := 27) hx hb dX1_countAlive_21 (by decide) (fun c_3 => ?_) (fun c_4 => ?_)
        · skip
          have c_3 := zBi_0.mp c_3
          refine lv_iinc (v := nI (k + 1)) (lv' := [(2, .int (nI (k + 1))), (1, .int v), (0, .ref (ad 0))]) hx hb dX1_countAlive_27 hl (k := 0) rfl (nI_1 _) (by decide) rfl (fun ls hl => ?_)
          refine lv_goto (tgt := 4) hx hb dX1_countAlive_30 (by decide) ?_
          have e_5 : zIt (zCaS τ) (k + 1) (0 : Int32) = v := by
            rw [zIt_s, hF_v]
            first | with_reducible rfl | (simp only [zCaS, c_2, c_3, eq_self, ne_eq, not_true_eq_false, not_false_eq_true, and_true, true_and, and_self, and_false, false_and, true_or, or_true, false_or, or_false, reduceIte]; done) | (simp [zCaS, c_2, c_3]; done) | rfl | (simp_all [zCaS]; done)
          refine ih1 (k + 1) _ _ _ (by omega) (by omega) ?_ hS ?_
          · first | exact hN | (rw [e_5]; exact hN)
          · first | exact lv_sub hl [0, 1, 2] rfl | (rw [e_5]; exact lv_sub hl [0, 1, 2] rfl)
        · skip
          have c_4 := zBi_n0.mp c_4
          refine lv_iinc (v := v + 1) (lv' := [(1, .int (v + 1)), (2, .int (nI k)), (0, .ref (ad 0))]) hx hb dX1_countAlive_24 hl (k := 1) rfl rfl (by decide) rfl (fun ls hl => ?_)
          refine lv_iinc (v := nI (k + 1)) (lv' := [(2, .int (nI (k + 1))), (1, .int (v + 1)), (0, .ref (ad 0))]) hx hb dX1_countAlive_27 hl (k := 1) rfl (nI_1 _) (by decide) rfl (fun ls hl => ?_)
          refine lv_goto (tgt := 4) hx hb dX1_countAlive_30 (by decide) ?_
          have e_6 : zIt (zCaS τ) (k + 1) (0 : Int32) = v + 1 := by
            rw [zIt_s, hF_v]
            first | with_reducible rfl | (simp only [zCaS, c_2, c_4, eq_self, ne_eq, not_true_eq_false, not_false_eq_true, and_true, true_and, and_self, and_false, false_and, true_or, or_true, false_or, or_false, reduceIte]; done) | (simp [zCaS, c_2, c_4]; done) | rfl | (simp_all [zCaS]; done)
          refine ih1 (k + 1) _ _ _ (by omega) (by omega) ?_ hS ?_
          · first | exact hN | (rw [e_6]; exact hN)
          · first | exact lv_sub hl [0, 1, 2] rfl | (rw [e_6]; exact lv_sub hl [0, 1, 2] rfl)
  exact loop1 (n + 1) 0 _ _ _ (by omega) (by omega) hN hS (lv_sub hl [0, 1, 2] rfl)

theorem in_X2_pays_X1 : ∀ w ∈ wsX10, w ∈ wsX2_pays := by decide +kernel
theorem in_X2_pays_X2 : ∀ w ∈ wsX20, w ∈ wsX2_pays := by decide +kernel
theorem in_X2_pays_X3 : ∀ w ∈ wsX30, w ∈ wsX2_pays := by decide +kernel
set_option maxHeartbeats 4000000 in
set_option maxRecDepth 100000 in
theorem c_X2_pays (l : Launch) (G : zG) (A : Nat → Prop) (ad : Nat → Nat) (n N : Nat) (g : Nat → Int32) (r : Nat) (hA : zAp G ad (zX r ad) A) (hnN : n ≤ N) (hN12 : N ≤ 12) (τ : zT) (i : Nat) (hi : i < N) (d : Int32) : zMi l G A yX2_pays wsX2_pays 0 0 [.ref r, .ref (ad (3 + i)), .int d] (zNA G ad n N g (zX r ad) τ) (zBi (¬ τ 2 i < d)) (zNA G ad n N g (zX r ad) (zPay τ i d)) := by
  refine z_met (cc := cX2_pays) (maxL := 3) (ret := (some .boolean)) (by decide) rfl (Nat.le_of_ble_eq_true rfl) ?_
  intro p e s m below meth c ls S hr hlk hnm hN hK hl
  have S : CallFix p m c cX2_pays 3 s _ wsX2_pays RX2 := S
  obtain ⟨hx, hb, hml, hown, hts⟩ := id S
  have hS : va_S A s.heap s.heap [] := va_S.rf
  have hl : lv_has ls 3 [(0, .ref r), (1, .ref (ad (3 + i))), (2, .int d)] := hl
  refine lv_aload_n hx hb dX2_pays_0 rfl (lv_at hl 1 rfl) ?_
  refine z_getS (v := .int (τ 2 i)) hx hb hts hown in_X2_pays_X3 hK hN12 hN (by omega) 2 (by decide) rfl (hts _ (List.mem_of_getElem? (i := 1) (by decide +kernel))) rfl dX2_pays_1 ?_
  refine lv_iload_n hx hb dX2_pays_4 rfl (lv_at hl 2 rfl) ?_
  refine lv_icmp_ge (tgt := 26) hx hb dX2_pays_5 (by decide) (fun c_1 => ?_) (fun c_2 => ?_)
  · skip
    have c_1 := Int32.not_lt.mpr c_1
    refine lv_aload_n hx hb dX2_pays_26 rfl (lv_at hl 1 rfl) ?_
    refine lv_dup hx hb dX2_pays_27 rfl ?_
    refine z_getS (v := .int (τ 2 i)) hx hb hts hown in_X2_pays_X3 hK hN12 hN (by omega) 2 (by decide) rfl (hts _ (List.mem_of_getElem? (i := 1) (by decide +kernel))) rfl dX2_pays_28 ?_
    refine lv_iload_n hx hb dX2_pays_31 rfl (lv_at hl 2 rfl) ?_
    refine lv_isub hx hb dX2_pays_32 ?_
    refine z_putS (v := .int ((τ 2 i) - d)) (w := (τ 2 i) - d) (ty := .int) hx hb hts hown in_X2_pays_X3 hK hA hS hN (by omega) 2 2 (by decide) rfl (by decide) (hts _ (List.mem_of_getElem? (i := 1) (by decide +kernel))) (by decide +kernel) rfl rfl rfl (fun τ => zSet2 τ _ _) dX2_pays_33 (fun H locs hN hS => ?_)
    refine lv_aload_n hx hb dX2_pays_36 rfl (lv_at hl 0 rfl) ?_
    refine z_getR hx hb hts hown in_X2_pays_X2 hK hN (hts _ (List.mem_of_getElem? (i := 3) (by decide +kernel))) dX2_pays_37 ?_
    refine lv_dup hx hb dX2_pays_40 rfl ?_
    refine z_getO (v := .int (τ 11 14)) hx hb hts hown in_X2_pays_X1 hK hN 10 (by decide) rfl (hts _ (List.mem_of_getElem? (i := 6) (by decide +kernel))) rfl dX2_pays_41 ?_
    refine lv_iload_n hx hb dX2_pays_44 rfl (lv_at hl 2 rfl) ?_
    refine lv_iadd hx hb dX2_pays_45 ?_
    refine z_putO (w := (τ 11 14) + d) hx hb hts hown in_X2_pays_X1 hK hA hS hN 10 14 (by decide) rfl (hts _ (List.mem_of_getElem? (i := 6) (by decide +kernel))) (by decide +kernel) rfl (fun τ => zObs10 ad n g τ _) dX2_pays_46 (fun H locs hN hS => ?_)
    refine lv_iconst (v := 1) hx hb dX2_pays_49 (by decide) ?_
    refine z_top (x2 := zBi (¬ τ 2 i < d)) (by first | with_reducible rfl | (simp only [zPay, zPd, zDie, zBi, c_1, eq_self, ne_eq, not_true_eq_false, not_false_eq_true, and_true, true_and, and_self, and_false, false_and, true_or, or_true, false_or, or_false, reduceIte]; done) | (simp [zPay, zPd, zDie, zBi, c_1]; done) | rfl | (simp_all [zPay, zPd, zDie, zBi]; done)) ?_
    exact z_zret hx hb hr hlk zBi_nar hK hS (hN.cast (by first | with_reducible rfl | (simp only [zPay, zPd, zDie, zBi, c_1, eq_self, ne_eq, not_true_eq_false, not_false_eq_true, and_true, true_and, and_self, and_false, false_and, true_or, or_true, false_or, or_false, reduceIte]; done) | (simp [zPay, zPd, zDie, zBi, c_1]; done) | rfl | (simp_all [zPay, zPd, zDie, zBi]; done))) dX2_pays_50
  · skip
    have c_2 := Int32.not_le.mp c_2
    refine lv_aload_n hx hb dX2_pays_8 rfl (lv_at hl 1 rfl) ?_
    refine lv_iconst (v := 0) hx hb dX2_pays_9 (by decide) ?_
    refine z_putS (v := .int 0) (w := 0) (ty := .boolean) hx hb hts hown in_X2_pays_X3 hK hA hS hN (by omega) 3 3 (by decide) rfl (by decide) (hts _ (List.mem_of_getElem? (i := 2) (by decide +kernel))) (by decide +kernel) (by decide) (by decide) rfl (fun τ => zSet3 τ _ (by decide)) dX2_pays_10 (fun H locs hN hS => ?_)
    refine lv_aload_n hx hb dX2_pays_13 rfl (lv_at hl 1 rfl) ?_
    refine lv_aload_n hx hb dX2_pays_14 rfl (lv_at hl 0 rfl) ?_
    refine z_getR hx hb hts hown in_X2_pays_X2 hK hN (hts _ (List.mem_of_getElem? (i := 3) (by decide +kernel))) dX2_pays_15 ?_
    refine z_getO (v := .int (τ 11 10)) hx hb hts hown in_X2_pays_X1 hK hN 6 (by decide) rfl (hts _ (List.mem_of_getElem? (i := 4) (by decide +kernel))) rfl dX2_pays_18 ?_
    refine z_putS (v := .int (τ 11 10)) (w := τ 11 10) (ty := .int) hx hb hts hown in_X2_pays_X3 hK hA hS hN (by omega) 6 6 (by decide) rfl (by decide) (hts _ (List.mem_of_getElem? (i := 5) (by decide +kernel))) (by decide +kernel) rfl rfl rfl (fun τ => zSet6 τ _ _) dX2_pays_21 (fun H locs hN hS => ?_)
    refine lv_iconst (v := 0) hx hb dX2_pays_24 (by decide) ?_
    refine z_top (x2 := zBi (¬ τ 2 i < d)) (by first | with_reducible rfl | (simp only [zPay, zPd, zDie, zBi, c_2, eq_self, ne_eq, not_true_eq_false, not_false_eq_true, and_true, true_and, and_self, and_false, false_and, true_or, or_true, false_or, or_false, reduceIte]; done) | (simp [zPay, zPd, zDie, zBi, c_2]; done) | rfl | (simp_all [zPay, zPd, zDie, zBi]; done)) ?_
    exact z_zret hx hb hr hlk zBi_nar hK hS (hN.cast (by first | with_reducible rfl | (simp only [zPay, zPd, zDie, zBi, c_2, eq_self, ne_eq, not_true_eq_false, not_false_eq_true, and_true, true_and, and_self, and_false, false_and, true_or, or_true, false_or, or_false, reduceIte]; done) | (simp [zPay, zPd, zDie, zBi, c_2]; done) | rfl | (simp_all [zPay, zPd, zDie, zBi]; done))) dX2_pays_25

theorem in_X2_begin_X1 : ∀ w ∈ wsX10, w ∈ wsX2_begin := by decide +kernel
theorem in_X2_begin_X2 : ∀ w ∈ wsX20, w ∈ wsX2_begin := by decide +kernel
theorem in_X2_begin_X3 : ∀ w ∈ wsX30, w ∈ wsX2_begin := by decide +kernel
set_option maxHeartbeats 4000000 in
set_option maxRecDepth 100000 in
theorem c_X2_begin (l : Launch) (G : zG) (A : Nat → Prop) (ad : Nat → Nat) (n N : Nat) (g : Nat → Int32) (r : Nat) (hA : zAp G ad (zX r ad) A) (hnN : n ≤ N) (hN12 : N ≤ 12) (hd3 : 0 < g 3) (τ : zT) : zMv l G A yX2_begin wsX2_begin 1 21 [.ref r] (zNA G ad n N g (zX r ad) τ) (zNA G ad n N g (zX r ad) (zBg n g τ)) := by
  refine z_met (cc := cX2_begin) (maxL := 4) (ret := none) (by decide) rfl (Nat.le_of_ble_eq_true rfl) ?_
  intro p e s m below meth c ls S hr hlk hnm hN hK hl
  have S : CallFix p m c cX2_begin 4 s _ wsX2_begin RX2 := S
  obtain ⟨hx, hb, hml, hown, hts⟩ := id S
  have hS : va_S A s.heap s.heap [] := va_S.rf
  have hl : lv_has ls 4 [(0, .ref r)] := hl
  refine lv_aload_n hx hb dX2_begin_0 rfl (lv_at hl 0 rfl) ?_
  refine z_getR hx hb hts hown in_X2_begin_X2 hK hN (hts _ (List.mem_of_getElem? (i := 1) (by decide +kernel))) dX2_begin_1 ?_
  refine z_vi (As := []) (rest := []) (P2 := zNA G ad n N g (zX r ad) τ) (r := zPh g τ) S (c_X1_phase l G A ad n N g (zX r ad) hA hnN hN12 hd3 τ ) (cwV 0 hts gX2_begin_X1_phase rfl rfl rfl (by decide +kernel) ⟨Nat.le_of_ble_eq_true rfl, Nat.le_of_ble_eq_true rfl⟩) (z_recN hK hN) hN hK hS (fun _ _ h => h) (fun _ h => h) hl.1 rfl rfl (Nat.le_of_ble_eq_true rfl) dX2_begin_4 ⟨Nat.le_refl _, Nat.le_refl _⟩ (fun H locs hN hS _ => ?_)
  refine lv_if_ne (tgt := 14) hx hb dX2_begin_7 (by decide) (fun c_1 => ?_) (fun c_2 => ?_)
  · skip
    refine lv_iconst (v := 0) hx hb dX2_begin_14 (by decide) ?_
    refine lv_istore_n (lv' := [(1, .int 0), (0, .ref r)]) hx hb dX2_begin_15 rfl hl (by decide) rfl (fun ls hl => ?_)
    refine lv_iconst (v := 0) hx hb dX2_begin_16 (by decide) ?_
    refine lv_istore_n (lv' := [(2, .int 0), (1, .int 0), (0, .ref r)]) hx hb dX2_begin_17 rfl hl (by decide) rfl (fun ls hl => ?_)
    have loop1 : ∀ (f1 k : Nat) (H : Heap) (locs : List Loc) (ls : Array Slot), k ≤ n → n < k + f1 → zNA G ad n N g (zX r ad) (zIt (zBgC (zPh g τ)) k τ) H → va_S A s.heap H locs → lv_has ls 4 [(2, .int (nI k)), (1, .int 0), (0, .ref r)] → W p l e ({ frames := 1, cells := 0, slots := 0, locals := 21 } : Room) s m ([.ref r] : List Value).toArray below meth c H locs 0 0 (MQ below (zQv G (zNA G ad n N g (zX r ad) (zBg n g τ)) A) ([.ref r] : List Value).toArray s 0 0 A) (F0 m 18 ls []) := by
      intro f1
      induction f1 with
      | zero => intro k H locs ls h1 h2; exact absurd h2 (by omega)
      | succ f1 ih1 =>
        intro k H locs ls hk1 hf1 hN hS hl
        generalize hF_τk : zIt (zBgC (zPh g τ)) k τ = τk at hN hl 
        refine lv_iload_n hx hb dX2_begin_18 rfl (lv_at hl 0 rfl) ?_
        refine lv_aload_n hx hb dX2_begin_19 rfl (lv_at hl 2 rfl) ?_
        refine z_getR hx hb hts hown in_X2_begin_X2 hK hN (hts _ (List.mem_of_getElem? (i := 1) (by decide +kernel))) dX2_begin_20 ?_
        refine z_getO (v := .int (nI n)) hx hb hts hown in_X2_begin_X1 hK hN 2 (by decide) rfl (hts _ (List.mem_of_getElem? (i := 2) (by decide +kernel))) rfl dX2_begin_23 ?_
        refine lv_icmp_ge (tgt := 58) hx hb dX2_begin_26 (by decide) (fun c_3 => ?_) (fun c_4 => ?_)
        · skip
          have c_3 := (z_leI (a := n) (b := k) (by omega) (by omega)).mp c_3
          have hkn1 : k = n := by omega
          rw [hkn1] at hF_τk
          subst hF_τk
          refine lv_aload_n hx hb dX2_begin_58 rfl (lv_at hl 2 rfl) ?_
          refine z_getR hx hb hts hown in_X2_begin_X2 hK hN (hts _ (List.mem_of_getElem? (i := 1) (by decide +kernel))) dX2_begin_59 ?_
          refine lv_iconst (v := 0) hx hb dX2_begin_62 (by decide) ?_
          refine z_putO (w := 0) hx hb hts hown in_X2_begin_X1 hK hA hS hN 7 11 (by decide) rfl (hts _ (List.mem_of_getElem? (i := 5) (by decide +kernel))) (by decide +kernel) rfl (fun τ => zObs7 ad n g τ _) dX2_begin_63 (fun H locs hN hS => ?_)
          refine lv_aload_n hx hb dX2_begin_66 rfl (lv_at hl 2 rfl) ?_
          refine z_getR hx hb hts hown in_X2_begin_X2 hK hN (hts _ (List.mem_of_getElem? (i := 1) (by decide +kernel))) dX2_begin_67 ?_
          refine lv_iconst (v := 0) hx hb dX2_begin_70 (by decide) ?_
          refine z_putO (w := 0) hx hb hts hown in_X2_begin_X1 hK hA hS hN 8 12 (by decide) rfl (hts _ (List.mem_of_getElem? (i := 6) (by decide +kernel))) (by decide +kernel) rfl (fun τ => zObs8 ad n g τ _) dX2_begin_71 (fun H locs hN hS => ?_)
          exact z_vret hx hb hr hlk hK hS (hN.cast (by first | with_reducible rfl | (simp only [zBg, c_1, c_3, eq_self, ne_eq, not_true_eq_false, not_false_eq_true, and_true, true_and, and_self, and_false, false_and, true_or, or_true, false_or, or_false, reduceIte]; done) | (simp [zBg, c_1, c_3]; done) | rfl | (simp_all [zBg]; done))) dX2_begin_74
        · skip
          have c_4 := (not_congr (z_leI (a := n) (b := k) (by omega) (by omega))).mp c_4
          refine lv_aload_n hx hb dX2_begin_29 rfl (lv_at hl 2 rfl) ?_
          refine z_getR hx hb hts hown in_X2_begin_X2 hK hN (hts _ (List.mem_of_getElem? (i := 1) (by decide +kernel))) dX2_begin_30 ?_
          refine z_getO (v := .ref (ad 1)) hx hb hts hown in_X2_begin_X1 hK hN 0 (by decide) rfl (hts _ (List.mem_of_getElem? (i := 3) (by decide +kernel))) rfl dX2_begin_33 ?_
          refine lv_iload_n hx hb dX2_begin_36 rfl (lv_at hl 0 rfl) ?_
          refine z_aald (i := k) hx hb hK hN rfl (by omega) dX2_begin_37 ?_
          refine lv_astore_n (lv' := [(3, .ref (ad (3 + k))), (2, .int (nI k)), (1, .int 0), (0, .ref r)]) hx hb dX2_begin_38 rfl hl (by decide) rfl (fun ls hl => ?_)
          refine lv_aload_n hx hb dX2_begin_39 rfl (lv_at hl 0 rfl) ?_
          refine z_vv (As := []) (rest := []) (P2 := zNA G ad n N g (zX r ad) (zBr τk k)) S (c_X3_beginRound l G A ad n N g (zX r ad) hA hnN hN12  τk k (by omega)) (cwV 0 hts gX2_begin_X3_beginRound rfl rfl rfl (by decide +kernel) ⟨Nat.le_of_ble_eq_true rfl, Nat.le_of_ble_eq_true rfl⟩) (z_recS hK hN (by omega)) hN hK hS (fun _ _ h => h) (fun _ h => h) hl.1 rfl rfl (Nat.le_of_ble_eq_true rfl) dX2_begin_40 ⟨Nat.le_refl _, Nat.le_refl _⟩ (fun H locs hN hS _ => ?_)
          refine lv_iload_n hx hb dX2_begin_43 rfl (lv_at hl 2 rfl) ?_
          refine lv_if_eq (tgt := 52) hx hb dX2_begin_44 (by decide) (fun _ => ?_) (fun q => absurd (by decide) q)
          refine lv_iinc (v := nI (k + 1)) (lv' := [(2, .int (nI (k + 1))), (3, .ref (ad (3 + k))), (1, .int 0), (0, .ref r)]) hx hb dX2_begin_52 hl (k := 1) rfl (nI_1 _) (by decide) rfl (fun ls hl => ?_)
          refine lv_goto (tgt := 18) hx hb dX2_begin_55 (by decide) ?_
          have e_5 : zIt (zBgC (zPh g τ)) (k + 1) τ = zBr τk k := by
            rw [zIt_s, hF_τk]
            first | with_reducible rfl | (simp only [zBgC, c_1, c_4, eq_self, ne_eq, not_true_eq_false, not_false_eq_true, and_true, true_and, and_self, and_false, false_and, true_or, or_true, false_or, or_false, reduceIte]; done) | (simp [zBgC, c_1, c_4]; done) | rfl | (simp_all [zBgC]; done)
          refine ih1 (k + 1) _ _ _ (by omega) (by omega) ?_ hS ?_
          · first | exact hN | (rw [e_5]; exact hN)
          · first | exact lv_sub hl [0, 2, 3] rfl | (rw [e_5]; exact lv_sub hl [0, 2, 3] rfl)
    exact loop1 (n + 1) 0 _ _ _ (by omega) (by omega) hN hS (lv_sub hl [0, 1, 2] rfl)
  · skip
    refine lv_iconst (v := 1) hx hb dX2_begin_10 (by decide) ?_
    refine lv_goto (tgt := 15) hx hb dX2_begin_11 (by decide) ?_
    refine lv_istore_n (lv' := [(1, .int 1), (0, .ref r)]) hx hb dX2_begin_15 rfl hl (by decide) rfl (fun ls hl => ?_)
    refine lv_iconst (v := 0) hx hb dX2_begin_16 (by decide) ?_
    refine lv_istore_n (lv' := [(2, .int 0), (1, .int 1), (0, .ref r)]) hx hb dX2_begin_17 rfl hl (by decide) rfl (fun ls hl => ?_)
    have loop2 : ∀ (f2 k : Nat) (H : Heap) (locs : List Loc) (ls : Array Slot), k ≤ n → n < k + f2 → zNA G ad n N g (zX r ad) (zIt (zBgC (zPh g τ)) k τ) H → va_S A s.heap H locs → lv_has ls 4 [(2, .int (nI k)), (1, .int 1), (0, .ref r)] → W p l e ({ frames := 1, cells := 0, slots := 0, locals := 21 } : Room) s m ([.ref r] : List Value).toArray below meth c H locs 0 0 (MQ below (zQv G (zNA G ad n N g (zX r ad) (zBg n g τ)) A) ([.ref r] : List Value).toArray s 0 0 A) (F0 m 18 ls []) := by
      intro f2
      induction f2 with
      | zero => intro k H locs ls h1 h2; exact absurd h2 (by omega)
      | succ f2 ih2 =>
        intro k H locs ls hk2 hf2 hN hS hl
        generalize hF_τk : zIt (zBgC (zPh g τ)) k τ = τk at hN hl 
        refine lv_iload_n hx hb dX2_begin_18 rfl (lv_at hl 0 rfl) ?_
        refine lv_aload_n hx hb dX2_begin_19 rfl (lv_at hl 2 rfl) ?_
        refine z_getR hx hb hts hown in_X2_begin_X2 hK hN (hts _ (List.mem_of_getElem? (i := 1) (by decide +kernel))) dX2_begin_20 ?_
        refine z_getO (v := .int (nI n)) hx hb hts hown in_X2_begin_X1 hK hN 2 (by decide) rfl (hts _ (List.mem_of_getElem? (i := 2) (by decide +kernel))) rfl dX2_begin_23 ?_
        refine lv_icmp_ge (tgt := 58) hx hb dX2_begin_26 (by decide) (fun c_6 => ?_) (fun c_7 => ?_)
        · skip
          have c_6 := (z_leI (a := n) (b := k) (by omega) (by omega)).mp c_6
          have hkn2 : k = n := by omega
          rw [hkn2] at hF_τk
          subst hF_τk
          refine lv_aload_n hx hb dX2_begin_58 rfl (lv_at hl 2 rfl) ?_
          refine z_getR hx hb hts hown in_X2_begin_X2 hK hN (hts _ (List.mem_of_getElem? (i := 1) (by decide +kernel))) dX2_begin_59 ?_
          refine lv_iconst (v := 0) hx hb dX2_begin_62 (by decide) ?_
          refine z_putO (w := 0) hx hb hts hown in_X2_begin_X1 hK hA hS hN 7 11 (by decide) rfl (hts _ (List.mem_of_getElem? (i := 5) (by decide +kernel))) (by decide +kernel) rfl (fun τ => zObs7 ad n g τ _) dX2_begin_63 (fun H locs hN hS => ?_)
          refine lv_aload_n hx hb dX2_begin_66 rfl (lv_at hl 2 rfl) ?_
          refine z_getR hx hb hts hown in_X2_begin_X2 hK hN (hts _ (List.mem_of_getElem? (i := 1) (by decide +kernel))) dX2_begin_67 ?_
          refine lv_iconst (v := 0) hx hb dX2_begin_70 (by decide) ?_
          refine z_putO (w := 0) hx hb hts hown in_X2_begin_X1 hK hA hS hN 8 12 (by decide) rfl (hts _ (List.mem_of_getElem? (i := 6) (by decide +kernel))) (by decide +kernel) rfl (fun τ => zObs8 ad n g τ _) dX2_begin_71 (fun H locs hN hS => ?_)
          exact z_vret hx hb hr hlk hK hS (hN.cast (by first | with_reducible rfl | (simp only [zBg, c_2, c_6, eq_self, ne_eq, not_true_eq_false, not_false_eq_true, and_true, true_and, and_self, and_false, false_and, true_or, or_true, false_or, or_false, reduceIte]; done) | (simp [zBg, c_2, c_6]; done) | rfl | (simp_all [zBg]; done))) dX2_begin_74
        · skip
          have c_7 := (not_congr (z_leI (a := n) (b := k) (by omega) (by omega))).mp c_7
          refine lv_aload_n hx hb dX2_begin_29 rfl (lv_at hl 2 rfl) ?_
          refine z_getR hx hb hts hown in_X2_begin_X2 hK hN (hts _ (List.mem_of_getElem? (i := 1) (by decide +kernel))) dX2_begin_30 ?_
          refine z_getO (v := .ref (ad 1)) hx hb hts hown in_X2_begin_X1 hK hN 0 (by decide) rfl (hts _ (List.mem_of_getElem? (i := 3) (by decide +kernel))) rfl dX2_begin_33 ?_
          refine lv_iload_n hx hb dX2_begin_36 rfl (lv_at hl 0 rfl) ?_
          refine z_aald (i := k) hx hb hK hN rfl (by omega) dX2_begin_37 ?_
          refine lv_astore_n (lv' := [(3, .ref (ad (3 + k))), (2, .int (nI k)), (1, .int 1), (0, .ref r)]) hx hb dX2_begin_38 rfl hl (by decide) rfl (fun ls hl => ?_)
          refine lv_aload_n hx hb dX2_begin_39 rfl (lv_at hl 0 rfl) ?_
          refine z_vv (As := []) (rest := []) (P2 := zNA G ad n N g (zX r ad) (zBr τk k)) S (c_X3_beginRound l G A ad n N g (zX r ad) hA hnN hN12  τk k (by omega)) (cwV 0 hts gX2_begin_X3_beginRound rfl rfl rfl (by decide +kernel) ⟨Nat.le_of_ble_eq_true rfl, Nat.le_of_ble_eq_true rfl⟩) (z_recS hK hN (by omega)) hN hK hS (fun _ _ h => h) (fun _ h => h) hl.1 rfl rfl (Nat.le_of_ble_eq_true rfl) dX2_begin_40 ⟨Nat.le_refl _, Nat.le_refl _⟩ (fun H locs hN hS _ => ?_)
          refine lv_iload_n hx hb dX2_begin_43 rfl (lv_at hl 2 rfl) ?_
          refine lv_if_eq (tgt := 52) hx hb dX2_begin_44 (by decide) (fun q => absurd q (by decide)) (fun _ => ?_)
          refine lv_aload_n hx hb dX2_begin_47 rfl (lv_at hl 0 rfl) ?_
          refine lv_iconst (v := 1) hx hb dX2_begin_48 (by decide) ?_
          refine z_putS (v := .int 1) (w := 1) (ty := .boolean) hx hb hts hown in_X2_begin_X3 hK hA hS hN (by omega) 4 4 (by decide) rfl (by decide) (hts _ (List.mem_of_getElem? (i := 4) (by decide +kernel))) (by decide +kernel) (by decide) (by decide) rfl (fun τ => zSet4 τ _ (by decide)) dX2_begin_49 (fun H locs hN hS => ?_)
          refine lv_iinc (v := nI (k + 1)) (lv' := [(2, .int (nI (k + 1))), (3, .ref (ad (3 + k))), (1, .int 1), (0, .ref r)]) hx hb dX2_begin_52 hl (k := 1) rfl (nI_1 _) (by decide) rfl (fun ls hl => ?_)
          refine lv_goto (tgt := 18) hx hb dX2_begin_55 (by decide) ?_
          have e_8 : zIt (zBgC (zPh g τ)) (k + 1) τ = zSt (zBr τk k) 4 k 1 := by
            rw [zIt_s, hF_τk]
            first | with_reducible rfl | (simp only [zBgC, c_2, c_7, eq_self, ne_eq, not_true_eq_false, not_false_eq_true, and_true, true_and, and_self, and_false, false_and, true_or, or_true, false_or, or_false, reduceIte]; done) | (simp [zBgC, c_2, c_7]; done) | rfl | (simp_all [zBgC]; done)
          refine ih2 (k + 1) _ _ _ (by omega) (by omega) ?_ hS ?_
          · first | exact hN | (rw [e_8]; exact hN)
          · first | exact lv_sub hl [0, 2, 3] rfl | (rw [e_8]; exact lv_sub hl [0, 2, 3] rfl)
    exact loop2 (n + 1) 0 _ _ _ (by omega) (by omega) hN hS (lv_sub hl [0, 1, 2] rfl)

theorem in_X2_isLivingHead_X1 : ∀ w ∈ wsX10, w ∈ wsX2_isLivingHead := by decide +kernel
theorem in_X2_isLivingHead_X2 : ∀ w ∈ wsX20, w ∈ wsX2_isLivingHead := by decide +kernel
theorem in_X2_isLivingHead_X3 : ∀ w ∈ wsX30, w ∈ wsX2_isLivingHead := by decide +kernel
set_option maxHeartbeats 4000000 in
set_option maxRecDepth 100000 in
theorem c_X2_isLivingHead (l : Launch) (G : zG) (A : Nat → Prop) (ad : Nat → Nat) (n N : Nat) (g : Nat → Int32) (r : Nat) (hA : zAp G ad (zX r ad) A) (hnN : n ≤ N) (hN12 : N ≤ 12) (τ : zT) (h : Nat) (hh : h < n) : zMi l G A yX2_isLivingHead wsX2_isLivingHead 0 0 [.ref r, .int (nI h)] (zNA G ad n N g (zX r ad) τ) (zBi (τ 3 h = 1 ∧ τ 7 h = nI h)) (zNA G ad n N g (zX r ad) τ) := by
  refine z_met (cc := cX2_isLivingHead) (maxL := 3) (ret := (some .boolean)) (by decide) rfl (Nat.le_of_ble_eq_true rfl) ?_
  intro p e s m below meth c ls S hr hlk hnm hN hK hl
  have S : CallFix p m c cX2_isLivingHead 3 s _ wsX2_isLivingHead RX2 := S
  obtain ⟨hx, hb, hml, hown, hts⟩ := id S
  have hS : va_S A s.heap s.heap [] := va_S.rf
  have hl : lv_has ls 3 [(0, .ref r), (1, .int (nI h))] := hl
  refine lv_aload_n hx hb dX2_isLivingHead_0 rfl (lv_at hl 0 rfl) ?_
  refine z_getR hx hb hts hown in_X2_isLivingHead_X2 hK hN (hts _ (List.mem_of_getElem? (i := 1) (by decide +kernel))) dX2_isLivingHead_1 ?_
  refine z_getO (v := .ref (ad 1)) hx hb hts hown in_X2_isLivingHead_X1 hK hN 0 (by decide) rfl (hts _ (List.mem_of_getElem? (i := 2) (by decide +kernel))) rfl dX2_isLivingHead_4 ?_
  refine lv_iload_n hx hb dX2_isLivingHead_7 rfl (lv_at hl 1 rfl) ?_
  refine z_aald (i := h) hx hb hK hN rfl (by omega) dX2_isLivingHead_8 ?_
  refine lv_astore_n (lv' := [(2, .ref (ad (3 + h))), (0, .ref r), (1, .int (nI h))]) hx hb dX2_isLivingHead_9 rfl hl (by decide) rfl (fun ls hl => ?_)
  refine lv_aload_n hx hb dX2_isLivingHead_10 rfl (lv_at hl 0 rfl) ?_
  refine z_getS (v := .int (zBi (τ 3 h = 1))) hx hb hts hown in_X2_isLivingHead_X3 hK hN12 hN (by omega) 3 (by decide) rfl (hts _ (List.mem_of_getElem? (i := 3) (by decide +kernel))) rfl dX2_isLivingHead_11 ?_
  refine lv_if_eq (tgt := 29) hx hb dX2_isLivingHead_14 (by decide) (fun c_1 => ?_) (fun c_2 => ?_)
  · skip
    have c_1 := zBi_0.mp c_1
    refine lv_iconst (v := 0) hx hb dX2_isLivingHead_29 (by decide) ?_
    refine z_top (x2 := zBi (τ 3 h = 1 ∧ τ 7 h = nI h)) (by first | with_reducible rfl | (simp only [zBi, c_1, eq_self, ne_eq, not_true_eq_false, not_false_eq_true, and_true, true_and, and_self, and_false, false_and, true_or, or_true, false_or, or_false, reduceIte]; done) | (simp [zBi, c_1]; done) | rfl | (simp_all [zBi]; done)) ?_
    exact z_zret hx hb hr hlk zBi_nar hK hS (hN) dX2_isLivingHead_30
  · skip
    have c_2 := zBi_n0.mp c_2
    refine lv_aload_n hx hb dX2_isLivingHead_17 rfl (lv_at hl 0 rfl) ?_
    refine z_getS (v := .int (τ 7 h)) hx hb hts hown in_X2_isLivingHead_X3 hK hN12 hN (by omega) 7 (by decide) rfl (hts _ (List.mem_of_getElem? (i := 4) (by decide +kernel))) rfl dX2_isLivingHead_18 ?_
    refine lv_iload_n hx hb dX2_isLivingHead_21 rfl (lv_at hl 2 rfl) ?_
    refine lv_icmp_ne (tgt := 29) hx hb dX2_isLivingHead_22 (by decide) (fun c_3 => ?_) (fun c_4 => ?_)
    · skip
      refine lv_iconst (v := 0) hx hb dX2_isLivingHead_29 (by decide) ?_
      refine z_top (x2 := zBi (τ 3 h = 1 ∧ τ 7 h = nI h)) (by first | with_reducible rfl | (simp only [zBi, c_2, c_3, eq_self, ne_eq, not_true_eq_false, not_false_eq_true, and_true, true_and, and_self, and_false, false_and, true_or, or_true, false_or, or_false, reduceIte]; done) | (simp [zBi, c_2, c_3]; done) | rfl | (simp_all [zBi]; done)) ?_
      exact z_zret hx hb hr hlk zBi_nar hK hS (hN) dX2_isLivingHead_30
    · skip
      refine lv_iconst (v := 1) hx hb dX2_isLivingHead_25 (by decide) ?_
      refine lv_goto (tgt := 30) hx hb dX2_isLivingHead_26 (by decide) ?_
      refine z_top (x2 := zBi (τ 3 h = 1 ∧ τ 7 h = nI h)) (by first | with_reducible rfl | (simp only [zBi, c_2, c_4, eq_self, ne_eq, not_true_eq_false, not_false_eq_true, and_true, true_and, and_self, and_false, false_and, true_or, or_true, false_or, or_false, reduceIte]; done) | (simp [zBi, c_2, c_4]; done) | rfl | (simp_all [zBi]; done)) ?_
      exact z_zret hx hb hr hlk zBi_nar hK hS (hN) dX2_isLivingHead_30

theorem in_X2_isHead_X1 : ∀ w ∈ wsX10, w ∈ wsX2_isHead := by decide +kernel
theorem in_X2_isHead_X2 : ∀ w ∈ wsX20, w ∈ wsX2_isHead := by decide +kernel
theorem in_X2_isHead_X3 : ∀ w ∈ wsX30, w ∈ wsX2_isHead := by decide +kernel
set_option maxHeartbeats 4000000 in
set_option maxRecDepth 100000 in
theorem c_X2_isHead (l : Launch) (G : zG) (A : Nat → Prop) (ad : Nat → Nat) (n N : Nat) (g : Nat → Int32) (r : Nat) (hA : zAp G ad (zX r ad) A) (hnN : n ≤ N) (hN12 : N ≤ 12) (τ : zT) (h : Nat) (hh : h < n) : zMi l G A yX2_isHead wsX2_isHead 0 0 [.ref r, .int (nI h)] (zNA G ad n N g (zX r ad) τ) (zBi (τ 7 h = nI h)) (zNA G ad n N g (zX r ad) τ) := by
  refine z_met (cc := cX2_isHead) (maxL := 2) (ret := (some .boolean)) (by decide) rfl (Nat.le_of_ble_eq_true rfl) ?_
  intro p e s m below meth c ls S hr hlk hnm hN hK hl
  have S : CallFix p m c cX2_isHead 2 s _ wsX2_isHead RX2 := S
  obtain ⟨hx, hb, hml, hown, hts⟩ := id S
  have hS : va_S A s.heap s.heap [] := va_S.rf
  have hl : lv_has ls 2 [(0, .ref r), (1, .int (nI h))] := hl
  refine lv_aload_n hx hb dX2_isHead_0 rfl (lv_at hl 0 rfl) ?_
  refine z_getR hx hb hts hown in_X2_isHead_X2 hK hN (hts _ (List.mem_of_getElem? (i := 1) (by decide +kernel))) dX2_isHead_1 ?_
  refine z_getO (v := .ref (ad 1)) hx hb hts hown in_X2_isHead_X1 hK hN 0 (by decide) rfl (hts _ (List.mem_of_getElem? (i := 2) (by decide +kernel))) rfl dX2_isHead_4 ?_
  refine lv_iload_n hx hb dX2_isHead_7 rfl (lv_at hl 1 rfl) ?_
  refine z_aald (i := h) hx hb hK hN rfl (by omega) dX2_isHead_8 ?_
  refine z_getS (v := .int (τ 7 h)) hx hb hts hown in_X2_isHead_X3 hK hN12 hN (by omega) 7 (by decide) rfl (hts _ (List.mem_of_getElem? (i := 3) (by decide +kernel))) rfl dX2_isHead_9 ?_
  refine lv_iload_n hx hb dX2_isHead_12 rfl (lv_at hl 1 rfl) ?_
  refine lv_icmp_ne (tgt := 20) hx hb dX2_isHead_13 (by decide) (fun c_1 => ?_) (fun c_2 => ?_)
  · skip
    refine lv_iconst (v := 0) hx hb dX2_isHead_20 (by decide) ?_
    refine z_top (x2 := zBi (τ 7 h = nI h)) (by first | with_reducible rfl | (simp only [zBi, c_1, eq_self, ne_eq, not_true_eq_false, not_false_eq_true, and_true, true_and, and_self, and_false, false_and, true_or, or_true, false_or, or_false, reduceIte]; done) | (simp [zBi, c_1]; done) | rfl | (simp_all [zBi]; done)) ?_
    exact z_zret hx hb hr hlk zBi_nar hK hS (hN) dX2_isHead_21
  · skip
    refine lv_iconst (v := 1) hx hb dX2_isHead_16 (by decide) ?_
    refine lv_goto (tgt := 21) hx hb dX2_isHead_17 (by decide) ?_
    refine z_top (x2 := zBi (τ 7 h = nI h)) (by first | with_reducible rfl | (simp only [zBi, c_2, eq_self, ne_eq, not_true_eq_false, not_false_eq_true, and_true, true_and, and_self, and_false, false_and, true_or, or_true, false_or, or_false, reduceIte]; done) | (simp [zBi, c_2]; done) | rfl | (simp_all [zBi]; done)) ?_
    exact z_zret hx hb hr hlk zBi_nar hK hS (hN) dX2_isHead_21

theorem in_X2_hasJoined_X1 : ∀ w ∈ wsX10, w ∈ wsX2_hasJoined := by decide +kernel
theorem in_X2_hasJoined_X2 : ∀ w ∈ wsX20, w ∈ wsX2_hasJoined := by decide +kernel
theorem in_X2_hasJoined_X3 : ∀ w ∈ wsX30, w ∈ wsX2_hasJoined := by decide +kernel
set_option maxHeartbeats 4000000 in
set_option maxRecDepth 100000 in
theorem c_X2_hasJoined (l : Launch) (G : zG) (A : Nat → Prop) (ad : Nat → Nat) (n N : Nat) (g : Nat → Int32) (r : Nat) (hA : zAp G ad (zX r ad) A) (hnN : n ≤ N) (hN12 : N ≤ 12) (τ : zT) (k h : Nat) (hk : k < n) (hh : h < n) : zMi l G A yX2_hasJoined wsX2_hasJoined 0 0 [.ref r, .int (nI k), .int (nI h)] (zNA G ad n N g (zX r ad) τ) (zBi (k ≠ h ∧ τ 7 k = nI h)) (zNA G ad n N g (zX r ad) τ) := by
  refine z_met (cc := cX2_hasJoined) (maxL := 3) (ret := (some .boolean)) (by decide) rfl (Nat.le_of_ble_eq_true rfl) ?_
  intro p e s m below meth c ls S hr hlk hnm hN hK hl
  have S : CallFix p m c cX2_hasJoined 3 s _ wsX2_hasJoined RX2 := S
  obtain ⟨hx, hb, hml, hown, hts⟩ := id S
  have hS : va_S A s.heap s.heap [] := va_S.rf
  have hl : lv_has ls 3 [(0, .ref r), (1, .int (nI k)), (2, .int (nI h))] := hl
  refine lv_iload_n hx hb dX2_hasJoined_0 rfl (lv_at hl 1 rfl) ?_
  refine lv_iload_n hx hb dX2_hasJoined_1 rfl (lv_at hl 2 rfl) ?_
  refine lv_icmp_eq (tgt := 25) hx hb dX2_hasJoined_2 (by decide) (fun c_1 => ?_) (fun c_2 => ?_)
  · skip
    have c_1 := (z_eqI (a := k) (b := h) (by omega) (by omega)).mp c_1
    refine lv_iconst (v := 0) hx hb dX2_hasJoined_25 (by decide) ?_
    refine z_top (x2 := zBi (k ≠ h ∧ τ 7 k = nI h)) (by first | with_reducible rfl | (simp only [zBi, c_1, eq_self, ne_eq, not_true_eq_false, not_false_eq_true, and_true, true_and, and_self, and_false, false_and, true_or, or_true, false_or, or_false, reduceIte]; done) | (simp [zBi, c_1]; done) | rfl | (simp_all [zBi]; done)) ?_
    exact z_zret hx hb hr hlk zBi_nar hK hS (hN) dX2_hasJoined_26
  · skip
    have c_2 := (not_congr (z_eqI (a := k) (b := h) (by omega) (by omega))).mp c_2
    refine lv_aload_n hx hb dX2_hasJoined_5 rfl (lv_at hl 0 rfl) ?_
    refine z_getR hx hb hts hown in_X2_hasJoined_X2 hK hN (hts _ (List.mem_of_getElem? (i := 1) (by decide +kernel))) dX2_hasJoined_6 ?_
    refine z_getO (v := .ref (ad 1)) hx hb hts hown in_X2_hasJoined_X1 hK hN 0 (by decide) rfl (hts _ (List.mem_of_getElem? (i := 2) (by decide +kernel))) rfl dX2_hasJoined_9 ?_
    refine lv_iload_n hx hb dX2_hasJoined_12 rfl (lv_at hl 1 rfl) ?_
    refine z_aald (i := k) hx hb hK hN rfl (by omega) dX2_hasJoined_13 ?_
    refine z_getS (v := .int (τ 7 k)) hx hb hts hown in_X2_hasJoined_X3 hK hN12 hN (by omega) 7 (by decide) rfl (hts _ (List.mem_of_getElem? (i := 3) (by decide +kernel))) rfl dX2_hasJoined_14 ?_
    refine lv_iload_n hx hb dX2_hasJoined_17 rfl (lv_at hl 2 rfl) ?_
    refine lv_icmp_ne (tgt := 25) hx hb dX2_hasJoined_18 (by decide) (fun c_3 => ?_) (fun c_4 => ?_)
    · skip
      refine lv_iconst (v := 0) hx hb dX2_hasJoined_25 (by decide) ?_
      refine z_top (x2 := zBi (k ≠ h ∧ τ 7 k = nI h)) (by first | with_reducible rfl | (simp only [zBi, c_2, c_3, eq_self, ne_eq, not_true_eq_false, not_false_eq_true, and_true, true_and, and_self, and_false, false_and, true_or, or_true, false_or, or_false, reduceIte]; done) | (simp [zBi, c_2, c_3]; done) | rfl | (simp_all [zBi]; done)) ?_
      exact z_zret hx hb hr hlk zBi_nar hK hS (hN) dX2_hasJoined_26
    · skip
      refine lv_iconst (v := 1) hx hb dX2_hasJoined_21 (by decide) ?_
      refine lv_goto (tgt := 26) hx hb dX2_hasJoined_22 (by decide) ?_
      refine z_top (x2 := zBi (k ≠ h ∧ τ 7 k = nI h)) (by first | with_reducible rfl | (simp only [zBi, c_2, c_4, eq_self, ne_eq, not_true_eq_false, not_false_eq_true, and_true, true_and, and_self, and_false, false_and, true_or, or_true, false_or, or_false, reduceIte]; done) | (simp [zBi, c_2, c_4]; done) | rfl | (simp_all [zBi]; done)) ?_
      exact z_zret hx hb hr hlk zBi_nar hK hS (hN) dX2_hasJoined_26
