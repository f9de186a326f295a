/-! rows laid by my own program (wip/whole/gen) -/
theorem in_X5_of_X5 : ∀ w ∈ wsX50, w ∈ wsX5_of := by decide +kernel
set_option maxHeartbeats 4000000 in
set_option maxRecDepth 100000 in
theorem c_X5_of (l : Launch) (G : zG) (A : Nat → Prop) (ad : Nat → Nat) (Y : zY) (n : Nat) (g : Nat → Int32) (hA : zAm G ad A) (hn12 : n ≤ 12) (τ : zT) (k w : Nat) (hk : k < 12) (hw : w < 9) : zMi l G A yX5_of wsX5_of 0 0 [.ref (ad 0), .int (nI k), .int (nI w)] (zMP G ad Y n g τ) (τ w k) (zMP G ad Y n g τ) := by
  refine z_met (cc := cX5_of) (maxL := 3) (ret := (some .int)) (by decide) rfl (Nat.le_of_ble_eq_true rfl) ?_
  intro p e s m below meth c ls S hr hlk hnm hM hK hl
  have S : CallFix p m c cX5_of 3 s _ wsX5_of RX5 := S
  obtain ⟨hx, hb, hml, hown, hts⟩ := id S
  have hS : va_S A s.heap s.heap [] := va_S.rf
  have hl : lv_has ls 3 [(0, .ref (ad 0)), (1, .int (nI k)), (2, .int (nI w))] := hl
  refine lv_aload_n hx hb dX5_of_0 rfl (lv_at hl 0 rfl) ?_
  refine z_getM (v := .ref (ad 1)) hx hb hts hown in_X5_of_X5 hK hM 1 (by decide) rfl (hts _ (List.mem_of_getElem? (i := 1) (by decide +kernel))) rfl dX5_of_1 ?_
  refine lv_bipush (v := 15) hx hb dX5_of_4 (by decide) ?_
  refine lv_bipush (v := 9) hx hb dX5_of_6 (by decide) ?_
  refine lv_iload_n hx hb dX5_of_8 rfl (lv_at hl 1 rfl) ?_
  refine lv_imul hx hb dX5_of_9 ?_
  refine z_top (x2 := nI (9 * k)) (pk_mul 9 k) ?_
  refine lv_iadd hx hb dX5_of_10 ?_
  refine z_top (x2 := nI (15 + (9 * k))) (nI_add 15 (9 * k)) ?_
  refine lv_iload_n hx hb dX5_of_11 rfl (lv_at hl 2 rfl) ?_
  refine lv_iadd hx hb dX5_of_12 ?_
  refine z_top (x2 := nI ((15 + (9 * k)) + w)) (nI_add (15 + (9 * k)) w) ?_
  refine z_ldM (w := τ w k) hx hb hK hM 1 rfl ((15 + (9 * k)) + w) rfl (by omega) (by decide) (zMA_s n g τ hw) dX5_of_13 ?_
  exact z_iret hx hb hr hlk hK hS (hM) dX5_of_14

theorem in_X5_set_X5 : ∀ w ∈ wsX50, w ∈ wsX5_set := by decide +kernel
set_option maxHeartbeats 4000000 in
set_option maxRecDepth 100000 in
theorem c_X5_set (l : Launch) (G : zG) (A : Nat → Prop) (ad : Nat → Nat) (Y : zY) (n : Nat) (g : Nat → Int32) (hA : zAm G ad A) (hn12 : n ≤ 12) (τ : zT) (k w : Nat) (hk : k < 12) (hw : w < 9) (v : Int32) : zMv l G A yX5_set wsX5_set 0 0 [.ref (ad 0), .int (nI k), .int (nI w), .int v] (zMP G ad Y n g τ) (zMP G ad Y n g (zSt τ w k v)) := by
  refine z_met (cc := cX5_set) (maxL := 4) (ret := none) (by decide) rfl (Nat.le_of_ble_eq_true rfl) ?_
  intro p e s m below meth c ls S hr hlk hnm hM hK hl
  have S : CallFix p m c cX5_set 4 s _ wsX5_set RX5 := S
  obtain ⟨hx, hb, hml, hown, hts⟩ := id S
  have hS : va_S A s.heap s.heap [] := va_S.rf
  have hl : lv_has ls 4 [(0, .ref (ad 0)), (1, .int (nI k)), (2, .int (nI w)), (3, .int v)] := hl
  refine lv_aload_n hx hb dX5_set_0 rfl (lv_at hl 0 rfl) ?_
  refine z_getM (v := .ref (ad 1)) hx hb hts hown in_X5_set_X5 hK hM 1 (by decide) rfl (hts _ (List.mem_of_getElem? (i := 1) (by decide +kernel))) rfl dX5_set_1 ?_
  refine lv_bipush (v := 15) hx hb dX5_set_4 (by decide) ?_
  refine lv_bipush (v := 9) hx hb dX5_set_6 (by decide) ?_
  refine lv_iload_n hx hb dX5_set_8 rfl (lv_at hl 1 rfl) ?_
  refine lv_imul hx hb dX5_set_9 ?_
  refine z_top (x2 := nI (9 * k)) (pk_mul 9 k) ?_
  refine lv_iadd hx hb dX5_set_10 ?_
  refine z_top (x2 := nI (15 + (9 * k))) (nI_add 15 (9 * k)) ?_
  refine lv_iload_n hx hb dX5_set_11 rfl (lv_at hl 2 rfl) ?_
  refine lv_iadd hx hb dX5_set_12 ?_
  refine z_top (x2 := nI ((15 + (9 * k)) + w)) (nI_add (15 + (9 * k)) w) ?_
  refine lv_iload_n hx hb dX5_set_13 rfl (lv_at hl 3 rfl) ?_
  refine z_stM (w := v) hx hb hK hA hS hM 1 rfl ((15 + (9 * k)) + w) rfl (by omega) (by decide) (zMP G ad Y n g (zSt τ w k v)) (z_ms G ad Y n g τ hw v) dX5_set_14 (fun H locs hM hS => ?_)
  exact z_vret hx hb hr hlk hK hS (hM) dX5_set_15

set_option maxHeartbeats 4000000 in
set_option maxRecDepth 100000 in
theorem c_X5_lives (l : Launch) (G : zG) (A : Nat → Prop) (ad : Nat → Nat) (Y : zY) (n : Nat) (g : Nat → Int32) (hA : zAm G ad A) (hn12 : n ≤ 12) (τ : zT) (k : Nat) (hk : k < 12) : zMi l G A yX5_lives wsX5_lives 1 22 [.ref (ad 0), .int (nI k)] (zMP G ad Y n g τ) (zBi (τ 3 k = 1)) (zMP G ad Y n g τ) := by
  refine z_met (cc := cX5_lives) (maxL := 2) (ret := (some .boolean)) (by decide) rfl (Nat.le_of_ble_eq_true rfl) ?_
  intro p e s m below meth c ls S hr hlk hnm hM hK hl
  have S : CallFix p m c cX5_lives 2 s _ wsX5_lives RX5 := S
  obtain ⟨hx, hb, hml, hown, hts⟩ := id S
  have hS : va_S A s.heap s.heap [] := va_S.rf
  have hl : lv_has ls 2 [(0, .ref (ad 0)), (1, .int (nI k))] := hl
  refine lv_aload_n hx hb dX5_lives_0 rfl (lv_at hl 0 rfl) ?_
  refine lv_iload_n hx hb dX5_lives_1 rfl (lv_at hl 1 rfl) ?_
  refine lv_iconst (v := 3) hx hb dX5_lives_2 (by decide) ?_
  refine z_vi (As := [.int (nI k), .int 3]) (rest := []) (P2 := zMP G ad Y n g τ) (r := τ 3 k) S (c_X5_of l G A ad Y n g hA hn12  τ k 3 (by omega) (by omega)) (cwV 2 hts gX5_lives_X5_of rfl rfl rfl (by decide +kernel) ⟨Nat.le_of_ble_eq_true rfl, Nat.le_of_ble_eq_true rfl⟩) (z_recM hK hM) hM hK hS (fun _ _ h => h) (fun _ h => h) hl.1 rfl rfl (Nat.le_of_ble_eq_true rfl) dX5_lives_3 ⟨Nat.le_refl _, Nat.le_refl _⟩ (fun H locs hM hS _ => ?_)
  refine lv_iconst (v := 1) hx hb dX5_lives_6 (by decide) ?_
  refine lv_icmp_ne (tgt := 14) hx hb dX5_lives_7 (by decide) (fun c_1 => ?_) (fun c_2 => ?_)
  · skip
    refine lv_iconst (v := 0) hx hb dX5_lives_14 (by decide) ?_
    refine z_top (x2 := zBi (τ 3 k = 1)) (by first | with_reducible rfl | (simp only [zBi, c_1, eq_self, ne_eq, not_true_eq_false, not_false_eq_true, and_true, true_and, and_self, and_false, false_and, true_or, or_true, false_or, or_false, reduceIte]; done) | (simp [zBi, c_1]; done) | rfl | (simp_all [zBi]; done)) ?_
    exact z_zret hx hb hr hlk zBi_nar hK hS (hM) dX5_lives_15
  · skip
    refine lv_iconst (v := 1) hx hb dX5_lives_10 (by decide) ?_
    refine lv_goto (tgt := 15) hx hb dX5_lives_11 (by decide) ?_
    refine z_top (x2 := zBi (τ 3 k = 1)) (by first | with_reducible rfl | (simp only [zBi, c_2, eq_self, ne_eq, not_true_eq_false, not_false_eq_true, and_true, true_and, and_self, and_false, false_and, true_or, or_true, false_or, or_false, reduceIte]; done) | (simp [zBi, c_2]; done) | rfl | (simp_all [zBi]; done)) ?_
    exact z_zret hx hb hr hlk zBi_nar hK hS (hM) dX5_lives_15

theorem in_X5_setting_X5 : ∀ w ∈ wsX50, w ∈ wsX5_setting := by decide +kernel
set_option maxHeartbeats 4000000 in
set_option maxRecDepth 100000 in
theorem c_X5_setting (l : Launch) (G : zG) (A : Nat → Prop) (ad : Nat → Nat) (Y : zY) (n : Nat) (g : Nat → Int32) (hA : zAm G ad A) (hn12 : n ≤ 12) (τ : zT) (j : Nat) (hj : j < 6) : zMi l G A yX5_setting wsX5_setting 0 0 [.ref (ad 0), .int (nI j)] (zMP G ad Y n g τ) (g (3 + j)) (zMP G ad Y n g τ) := by
  refine z_met (cc := cX5_setting) (maxL := 2) (ret := (some .int)) (by decide) rfl (Nat.le_of_ble_eq_true rfl) ?_
  intro p e s m below meth c ls S hr hlk hnm hM hK hl
  have S : CallFix p m c cX5_setting 2 s _ wsX5_setting RX5 := S
  obtain ⟨hx, hb, hml, hown, hts⟩ := id S
  have hS : va_S A s.heap s.heap [] := va_S.rf
  have hl : lv_has ls 2 [(0, .ref (ad 0)), (1, .int (nI j))] := hl
  refine lv_aload_n hx hb dX5_setting_0 rfl (lv_at hl 0 rfl) ?_
  refine z_getM (v := .ref (ad 1)) hx hb hts hown in_X5_setting_X5 hK hM 1 (by decide) rfl (hts _ (List.mem_of_getElem? (i := 1) (by decide +kernel))) rfl dX5_setting_1 ?_
  refine lv_iconst (v := 3) hx hb dX5_setting_4 (by decide) ?_
  refine lv_iload_n hx hb dX5_setting_5 rfl (lv_at hl 1 rfl) ?_
  refine lv_iadd hx hb dX5_setting_6 ?_
  refine z_top (x2 := nI (3 + j)) (nI_add 3 j) ?_
  refine z_ldM (w := g (3 + j)) hx hb hK hM 1 rfl (3 + j) rfl (by omega) (by decide) (by unfold zMA; rw [if_pos (by omega), if_neg (by omega), if_pos (by omega)]) dX5_setting_7 ?_
  exact z_iret hx hb hr hlk hK hS (hM) dX5_setting_8

set_option maxHeartbeats 4000000 in
set_option maxRecDepth 100000 in
theorem c_X5_isHead (l : Launch) (G : zG) (A : Nat → Prop) (ad : Nat → Nat) (Y : zY) (n : Nat) (g : Nat → Int32) (hA : zAm G ad A) (hn12 : n ≤ 12) (τ : zT) (k : Nat) (hk : k < 12) : zMi l G A yX5_isHead wsX5_isHead 1 22 [.ref (ad 0), .int (nI k)] (zMP G ad Y n g τ) (zBi (τ 7 k = nI k)) (zMP G ad Y n g τ) := by
  refine z_met (cc := cX5_isHead) (maxL := 2) (ret := (some .boolean)) (by decide) rfl (Nat.le_of_ble_eq_true rfl) ?_
  intro p e s m below meth c ls S hr hlk hnm hM hK hl
  have S : CallFix p m c cX5_isHead 2 s _ wsX5_isHead RX5 := S
  obtain ⟨hx, hb, hml, hown, hts⟩ := id S
  have hS : va_S A s.heap s.heap [] := va_S.rf
  have hl : lv_has ls 2 [(0, .ref (ad 0)), (1, .int (nI k))] := hl
  refine lv_aload_n hx hb dX5_isHead_0 rfl (lv_at hl 0 rfl) ?_
  refine lv_iload_n hx hb dX5_isHead_1 rfl (lv_at hl 1 rfl) ?_
  refine lv_bipush (v := 7) hx hb dX5_isHead_2 (by decide) ?_
  refine z_vi (As := [.int (nI k), .int 7]) (rest := []) (P2 := zMP G ad Y n g τ) (r := τ 7 k) S (c_X5_of l G A ad Y n g hA hn12  τ k 7 (by omega) (by omega)) (cwV 2 hts gX5_isHead_X5_of rfl rfl rfl (by decide +kernel) ⟨Nat.le_of_ble_eq_true rfl, Nat.le_of_ble_eq_true rfl⟩) (z_recM hK hM) hM hK hS (fun _ _ h => h) (fun _ h => h) hl.1 rfl rfl (Nat.le_of_ble_eq_true rfl) dX5_isHead_4 ⟨Nat.le_refl _, Nat.le_refl _⟩ (fun H locs hM hS _ => ?_)
  refine lv_iload_n hx hb dX5_isHead_7 rfl (lv_at hl 1 rfl) ?_
  refine lv_icmp_ne (tgt := 15) hx hb dX5_isHead_8 (by decide) (fun c_1 => ?_) (fun c_2 => ?_)
  · skip
    refine lv_iconst (v := 0) hx hb dX5_isHead_15 (by decide) ?_
    refine z_top (x2 := zBi (τ 7 k = nI k)) (by first | with_reducible rfl | (simp only [zBi, c_1, eq_self, ne_eq, not_true_eq_false, not_false_eq_true, and_true, true_and, and_self, and_false, false_and, true_or, or_true, false_or, or_false, reduceIte]; done) | (simp [zBi, c_1]; done) | rfl | (simp_all [zBi]; done)) ?_
    exact z_zret hx hb hr hlk zBi_nar hK hS (hM) dX5_isHead_16
  · skip
    refine lv_iconst (v := 1) hx hb dX5_isHead_11 (by decide) ?_
    refine lv_goto (tgt := 16) hx hb dX5_isHead_12 (by decide) ?_
    refine z_top (x2 := zBi (τ 7 k = nI k)) (by first | with_reducible rfl | (simp only [zBi, c_2, eq_self, ne_eq, not_true_eq_false, not_false_eq_true, and_true, true_and, and_self, and_false, false_and, true_or, or_true, false_or, or_false, reduceIte]; done) | (simp [zBi, c_2]; done) | rfl | (simp_all [zBi]; done)) ?_
    exact z_zret hx hb hr hlk zBi_nar hK hS (hM) dX5_isHead_16

set_option maxHeartbeats 4000000 in
set_option maxRecDepth 100000 in
theorem c_X5_in (l : Launch) (G : zG) (A : Nat → Prop) (P : Heap → Prop) (x a b : Int32) : zMi l G A yX5_in wsX5_in 0 0 [.int x, .int a, .int b] (P) (zBi (¬ x < a ∧ ¬ b < x)) (P) := by
  refine z_met (cc := cX5_in) (maxL := 3) (ret := (some .boolean)) (by decide) rfl (Nat.le_of_ble_eq_true rfl) ?_
  intro p e s m below meth c ls S hr hlk hnm hM hK hl
  have S : CallFix p m c cX5_in 3 s _ wsX5_in RX5 := S
  obtain ⟨hx, hb, hml, hown, hts⟩ := id S
  have hS : va_S A s.heap s.heap [] := va_S.rf
  have hl : lv_has ls 3 [(0, .int x), (1, .int a), (2, .int b)] := hl
  refine lv_iload_n hx hb dX5_in_0 rfl (lv_at hl 0 rfl) ?_
  refine lv_iload_n hx hb dX5_in_1 rfl (lv_at hl 1 rfl) ?_
  refine lv_icmp_lt (tgt := 14) hx hb dX5_in_2 (by decide) (fun c_1 => ?_) (fun c_2 => ?_)
  · skip
    refine lv_iconst (v := 0) hx hb dX5_in_14 (by decide) ?_
    refine z_top (x2 := zBi (¬ x < a ∧ ¬ b < x)) (by first | with_reducible rfl | (simp only [zBi, c_1, eq_self, ne_eq, not_true_eq_false, not_false_eq_true, and_true, true_and, and_self, and_false, false_and, true_or, or_true, false_or, or_false, reduceIte]; done) | (simp [zBi, c_1]; done) | rfl | (simp_all [zBi]; done)) ?_
    exact z_zret hx hb hr hlk zBi_nar hK hS (hM) dX5_in_15
  · skip
    refine lv_iload_n hx hb dX5_in_5 rfl (lv_at hl 0 rfl) ?_
    refine lv_iload_n hx hb dX5_in_6 rfl (lv_at hl 2 rfl) ?_
    refine lv_icmp_gt (tgt := 14) hx hb dX5_in_7 (by decide) (fun c_3 => ?_) (fun c_4 => ?_)
    · skip
      refine lv_iconst (v := 0) hx hb dX5_in_14 (by decide) ?_
      refine z_top (x2 := zBi (¬ x < a ∧ ¬ b < x)) (by first | with_reducible rfl | (simp only [zBi, c_2, c_3, eq_self, ne_eq, not_true_eq_false, not_false_eq_true, and_true, true_and, and_self, and_false, false_and, true_or, or_true, false_or, or_false, reduceIte]; done) | (simp [zBi, c_2, c_3]; done) | rfl | (simp_all [zBi]; done)) ?_
      exact z_zret hx hb hr hlk zBi_nar hK hS (hM) dX5_in_15
    · skip
      refine lv_iconst (v := 1) hx hb dX5_in_10 (by decide) ?_
      refine lv_goto (tgt := 15) hx hb dX5_in_11 (by decide) ?_
      refine z_top (x2 := zBi (¬ x < a ∧ ¬ b < x)) (by first | with_reducible rfl | (simp only [zBi, c_2, c_4, eq_self, ne_eq, not_true_eq_false, not_false_eq_true, and_true, true_and, and_self, and_false, false_and, true_or, or_true, false_or, or_false, reduceIte]; done) | (simp [zBi, c_2, c_4]; done) | rfl | (simp_all [zBi]; done)) ?_
      exact z_zret hx hb hr hlk zBi_nar hK hS (hM) dX5_in_15

theorem in_X5_isSensor_X5 : ∀ w ∈ wsX50, w ∈ wsX5_isSensor := by decide +kernel
set_option maxHeartbeats 4000000 in
set_option maxRecDepth 100000 in
theorem c_X5_isSensor (l : Launch) (G : zG) (A : Nat → Prop) (ad : Nat → Nat) (Y : zY) (n : Nat) (g : Nat → Int32) (hA : zAm G ad A) (hn12 : n ≤ 12) (τ : zT) (x : Int32) : zMi l G A yX5_isSensor wsX5_isSensor 1 22 [.ref (ad 0), .int x] (zMP G ad Y n g τ) (zBi (¬ x < 0 ∧ x < nI n)) (zMP G ad Y n g τ) := by
  refine z_met (cc := cX5_isSensor) (maxL := 2) (ret := (some .boolean)) (by decide) rfl (Nat.le_of_ble_eq_true rfl) ?_
  intro p e s m below meth c ls S hr hlk hnm hM hK hl
  have S : CallFix p m c cX5_isSensor 2 s _ wsX5_isSensor RX5 := S
  obtain ⟨hx, hb, hml, hown, hts⟩ := id S
  have hS : va_S A s.heap s.heap [] := va_S.rf
  have hl : lv_has ls 2 [(0, .ref (ad 0)), (1, .int x)] := hl
  refine lv_iload_n hx hb dX5_isSensor_0 rfl (lv_at hl 1 rfl) ?_
  refine lv_iconst (v := 0) hx hb dX5_isSensor_1 (by decide) ?_
  refine lv_aload_n hx hb dX5_isSensor_2 rfl (lv_at hl 0 rfl) ?_
  refine z_getM (v := .ref (ad 1)) hx hb hts hown in_X5_isSensor_X5 hK hM 1 (by decide) rfl (hts _ (List.mem_of_getElem? (i := 1) (by decide +kernel))) rfl dX5_isSensor_3 ?_
  refine lv_iconst (v := 0) hx hb dX5_isSensor_6 (by decide) ?_
  refine z_ldM (w := nI n) hx hb hK hM 1 rfl 0 (by decide) (by decide) (by decide) rfl dX5_isSensor_7 ?_
  refine lv_iconst (v := 1) hx hb dX5_isSensor_8 (by decide) ?_
  refine lv_isub hx hb dX5_isSensor_9 ?_
  refine z_si (As := [.int x, .int 0, .int ((nI n) - 1)]) (rest := []) (P2 := zMP G ad Y n g τ) (r := zBi (¬ x < 0 ∧ ¬ ((nI n) - 1) < x)) S (c_X5_in l G A (zMP G ad Y n g τ) x 0 ((nI n) - 1)) (cwS 3 hts gX5_isSensor_X5_in rfl rfl rfl (by decide +kernel) ⟨Nat.le_of_ble_eq_true rfl, Nat.le_of_ble_eq_true rfl⟩) hM hK hS (fun _ _ h => h) (fun _ h => h) hl.1 rfl rfl (Nat.le_of_ble_eq_true rfl) dX5_isSensor_10 ⟨Nat.le_refl _, Nat.le_refl _⟩ (fun H locs hM hS _ => ?_)
  refine z_top (x2 := zBi (¬ x < 0 ∧ x < nI n)) (zBi_iff (zIsS hn12 x)) ?_
  exact z_zret hx hb hr hlk zBi_nar hK hS (hM) dX5_isSensor_13

set_option maxHeartbeats 4000000 in
set_option maxRecDepth 100000 in
theorem c_X5_distanceTo (l : Launch) (G : zG) (A : Nat → Prop) (ad : Nat → Nat) (Y : zY) (n : Nat) (g : Nat → Int32) (hA : zAm G ad A) (hn12 : n ≤ 12) (τ : zT) (k : Nat) (hk : k < 12) (x y : Int32) : zMi l G A yX5_distanceTo wsX5_distanceTo 1 22 [.ref (ad 0), .int (nI k), .int x, .int y] (zMP G ad Y n g τ) (zDi (τ 0 k) (τ 1 k) x y) (zMP G ad Y n g τ) := by
  refine z_met (cc := cX5_distanceTo) (maxL := 6) (ret := (some .int)) (by decide) rfl (Nat.le_of_ble_eq_true rfl) ?_
  intro p e s m below meth c ls S hr hlk hnm hM hK hl
  have S : CallFix p m c cX5_distanceTo 6 s _ wsX5_distanceTo RX5 := S
  obtain ⟨hx, hb, hml, hown, hts⟩ := id S
  have hS : va_S A s.heap s.heap [] := va_S.rf
  have hl : lv_has ls 6 [(0, .ref (ad 0)), (1, .int (nI k)), (2, .int x), (3, .int y)] := hl
  refine lv_aload_n hx hb dX5_distanceTo_0 rfl (lv_at hl 0 rfl) ?_
  refine lv_iload_n hx hb dX5_distanceTo_1 rfl (lv_at hl 1 rfl) ?_
  refine lv_iconst (v := 0) hx hb dX5_distanceTo_2 (by decide) ?_
  refine z_vi (As := [.int (nI k), .int 0]) (rest := []) (P2 := zMP G ad Y n g τ) (r := τ 0 k) S (c_X5_of l G A ad Y n g hA hn12  τ k 0 (by omega) (by omega)) (cwV 2 hts gX5_distanceTo_X5_of rfl rfl rfl (by decide +kernel) ⟨Nat.le_of_ble_eq_true rfl, Nat.le_of_ble_eq_true rfl⟩) (z_recM hK hM) hM hK hS (fun _ _ h => h) (fun _ h => h) hl.1 rfl rfl (Nat.le_of_ble_eq_true rfl) dX5_distanceTo_3 ⟨Nat.le_refl _, Nat.le_refl _⟩ (fun H locs hM hS _ => ?_)
  refine lv_iload_n hx hb dX5_distanceTo_6 rfl (lv_at hl 2 rfl) ?_
  refine lv_isub hx hb dX5_distanceTo_7 ?_
  refine lv_istore (lv' := [(4, .int ((τ 0 k) - x)), (0, .ref (ad 0)), (1, .int (nI k)), (2, .int x), (3, .int y)]) hx hb dX5_distanceTo_8 hl (by decide) rfl (fun ls hl => ?_)
  refine lv_aload_n hx hb dX5_distanceTo_10 rfl (lv_at hl 1 rfl) ?_
  refine lv_iload_n hx hb dX5_distanceTo_11 rfl (lv_at hl 2 rfl) ?_
  refine lv_iconst (v := 1) hx hb dX5_distanceTo_12 (by decide) ?_
  refine z_vi (As := [.int (nI k), .int 1]) (rest := []) (P2 := zMP G ad Y n g τ) (r := τ 1 k) S (c_X5_of l G A ad Y n g hA hn12  τ k 1 (by omega) (by omega)) (cwV 2 hts gX5_distanceTo_X5_of rfl rfl rfl (by decide +kernel) ⟨Nat.le_of_ble_eq_true rfl, Nat.le_of_ble_eq_true rfl⟩) (z_recM hK hM) hM hK hS (fun _ _ h => h) (fun _ h => h) hl.1 rfl rfl (Nat.le_of_ble_eq_true rfl) dX5_distanceTo_13 ⟨Nat.le_refl _, Nat.le_refl _⟩ (fun H locs hM hS _ => ?_)
  refine lv_iload_n hx hb dX5_distanceTo_16 rfl (lv_at hl 4 rfl) ?_
  refine lv_isub hx hb dX5_distanceTo_17 ?_
  refine lv_istore (lv' := [(5, .int ((τ 1 k) - y)), (4, .int ((τ 0 k) - x)), (0, .ref (ad 0)), (1, .int (nI k)), (2, .int x), (3, .int y)]) hx hb dX5_distanceTo_18 hl (by decide) rfl (fun ls hl => ?_)
  refine lv_iload hx hb dX5_distanceTo_20 (lv_at hl 1 rfl) ?_
  refine lv_iload hx hb dX5_distanceTo_22 (lv_at hl 1 rfl) ?_
  refine lv_imul hx hb dX5_distanceTo_24 ?_
  refine lv_iload hx hb dX5_distanceTo_25 (lv_at hl 0 rfl) ?_
  refine lv_iload hx hb dX5_distanceTo_27 (lv_at hl 0 rfl) ?_
  refine lv_imul hx hb dX5_distanceTo_29 ?_
  refine lv_iadd hx hb dX5_distanceTo_30 ?_
  refine z_top (x2 := zDi (τ 0 k) (τ 1 k) x y) (by first | with_reducible rfl | (simp only [zDi, eq_self, ne_eq, not_true_eq_false, not_false_eq_true, and_true, true_and, and_self, and_false, false_and, true_or, or_true, false_or, or_false, reduceIte]; done) | (simp [zDi]; done) | rfl | (simp_all [zDi]; done)) ?_
  exact z_iret hx hb hr hlk hK hS (hM) dX5_distanceTo_31

set_option maxHeartbeats 4000000 in
set_option maxRecDepth 100000 in
theorem c_X5_distance (l : Launch) (G : zG) (A : Nat → Prop) (ad : Nat → Nat) (Y : zY) (n : Nat) (g : Nat → Int32) (hA : zAm G ad A) (hn12 : n ≤ 12) (τ : zT) (k h : Nat) (hk : k < 12) (hh : h < 12) : zMi l G A yX5_distance wsX5_distance 2 47 [.ref (ad 0), .int (nI k), .int (nI h)] (zMP G ad Y n g τ) (zDs τ k h) (zMP G ad Y n g τ) := by
  refine z_met (cc := cX5_distance) (maxL := 3) (ret := (some .int)) (by decide) rfl (Nat.le_of_ble_eq_true rfl) ?_
  intro p e s m below meth c ls S hr hlk hnm hM hK hl
  have S : CallFix p m c cX5_distance 3 s _ wsX5_distance RX5 := S
  obtain ⟨hx, hb, hml, hown, hts⟩ := id S
  have hS : va_S A s.heap s.heap [] := va_S.rf
  have hl : lv_has ls 3 [(0, .ref (ad 0)), (1, .int (nI k)), (2, .int (nI h))] := hl
  refine lv_aload_n hx hb dX5_distance_0 rfl (lv_at hl 0 rfl) ?_
  refine lv_iload_n hx hb dX5_distance_1 rfl (lv_at hl 1 rfl) ?_
  refine lv_aload_n hx hb dX5_distance_2 rfl (lv_at hl 0 rfl) ?_
  refine lv_iload_n hx hb dX5_distance_3 rfl (lv_at hl 2 rfl) ?_
  refine lv_iconst (v := 0) hx hb dX5_distance_4 (by decide) ?_
  refine z_vi (As := [.int (nI h), .int 0]) (rest := [.int (nI k), .ref (ad 0)]) (P2 := zMP G ad Y n g τ) (r := τ 0 h) S (c_X5_of l G A ad Y n g hA hn12  τ h 0 (by omega) (by omega)) (cwV 2 hts gX5_distance_X5_of rfl rfl rfl (by decide +kernel) ⟨Nat.le_of_ble_eq_true rfl, Nat.le_of_ble_eq_true rfl⟩) (z_recM hK hM) hM hK hS (fun _ _ h => h) (fun _ h => h) hl.1 rfl rfl (Nat.le_of_ble_eq_true rfl) dX5_distance_5 ⟨Nat.le_refl _, Nat.le_refl _⟩ (fun H locs hM hS _ => ?_)
  refine lv_aload_n hx hb dX5_distance_8 rfl (lv_at hl 0 rfl) ?_
  refine lv_iload_n hx hb dX5_distance_9 rfl (lv_at hl 2 rfl) ?_
  refine lv_iconst (v := 1) hx hb dX5_distance_10 (by decide) ?_
  refine z_vi (As := [.int (nI h), .int 1]) (rest := [.int (τ 0 h), .int (nI k), .ref (ad 0)]) (P2 := zMP G ad Y n g τ) (r := τ 1 h) S (c_X5_of l G A ad Y n g hA hn12  τ h 1 (by omega) (by omega)) (cwV 2 hts gX5_distance_X5_of rfl rfl rfl (by decide +kernel) ⟨Nat.le_of_ble_eq_true rfl, Nat.le_of_ble_eq_true rfl⟩) (z_recM hK hM) hM hK hS (fun _ _ h => h) (fun _ h => h) hl.1 rfl rfl (Nat.le_of_ble_eq_true rfl) dX5_distance_11 ⟨Nat.le_refl _, Nat.le_refl _⟩ (fun H locs hM hS _ => ?_)
  refine z_vi (As := [.int (nI k), .int (τ 0 h), .int (τ 1 h)]) (rest := []) (P2 := zMP G ad Y n g τ) (r := zDi (τ 0 k) (τ 1 k) (τ 0 h) (τ 1 h)) S (c_X5_distanceTo l G A ad Y n g hA hn12  τ k (by omega) (τ 0 h) (τ 1 h)) (cwV 3 hts gX5_distance_X5_distanceTo rfl rfl rfl (by decide +kernel) ⟨Nat.le_of_ble_eq_true rfl, Nat.le_of_ble_eq_true rfl⟩) (z_recM hK hM) hM hK hS (fun _ _ h => h) (fun _ h => h) hl.1 rfl rfl (Nat.le_of_ble_eq_true rfl) dX5_distance_14 ⟨Nat.le_refl _, Nat.le_refl _⟩ (fun H locs hM hS _ => ?_)
  refine z_top (x2 := zDs τ k h) (by first | with_reducible rfl | (simp only [zDs, eq_self, ne_eq, not_true_eq_false, not_false_eq_true, and_true, true_and, and_self, and_false, false_and, true_or, or_true, false_or, or_false, reduceIte]; done) | (simp [zDs]; done) | rfl | (simp_all [zDs]; done)) ?_
  exact z_iret hx hb hr hlk hK hS (hM) dX5_distance_17

theorem in_X5_distanceToBase_X5 : ∀ w ∈ wsX50, w ∈ wsX5_distanceToBase := by decide +kernel
set_option maxHeartbeats 4000000 in
set_option maxRecDepth 100000 in
theorem c_X5_distanceToBase (l : Launch) (G : zG) (A : Nat → Prop) (ad : Nat → Nat) (Y : zY) (n : Nat) (g : Nat → Int32) (hA : zAm G ad A) (hn12 : n ≤ 12) (τ : zT) (k : Nat) (hk : k < 12) : zMi l G A yX5_distanceToBase wsX5_distanceToBase 2 47 [.ref (ad 0), .int (nI k)] (zMP G ad Y n g τ) (zDb g τ k) (zMP G ad Y n g τ) := by
  refine z_met (cc := cX5_distanceToBase) (maxL := 2) (ret := (some .int)) (by decide) rfl (Nat.le_of_ble_eq_true rfl) ?_
  intro p e s m below meth c ls S hr hlk hnm hM hK hl
  have S : CallFix p m c cX5_distanceToBase 2 s _ wsX5_distanceToBase RX5 := S
  obtain ⟨hx, hb, hml, hown, hts⟩ := id S
  have hS : va_S A s.heap s.heap [] := va_S.rf
  have hl : lv_has ls 2 [(0, .ref (ad 0)), (1, .int (nI k))] := hl
  refine lv_aload_n hx hb dX5_distanceToBase_0 rfl (lv_at hl 0 rfl) ?_
  refine lv_iload_n hx hb dX5_distanceToBase_1 rfl (lv_at hl 1 rfl) ?_
  refine lv_aload_n hx hb dX5_distanceToBase_2 rfl (lv_at hl 0 rfl) ?_
  refine z_getM (v := .ref (ad 1)) hx hb hts hown in_X5_distanceToBase_X5 hK hM 1 (by decide) rfl (hts _ (List.mem_of_getElem? (i := 1) (by decide +kernel))) rfl dX5_distanceToBase_3 ?_
  refine lv_iconst (v := 1) hx hb dX5_distanceToBase_6 (by decide) ?_
  refine z_ldM (w := g 1) hx hb hK hM 1 rfl 1 (by decide) (by decide) (by decide) rfl dX5_distanceToBase_7 ?_
  refine lv_aload_n hx hb dX5_distanceToBase_8 rfl (lv_at hl 0 rfl) ?_
  refine z_getM (v := .ref (ad 1)) hx hb hts hown in_X5_distanceToBase_X5 hK hM 1 (by decide) rfl (hts _ (List.mem_of_getElem? (i := 1) (by decide +kernel))) rfl dX5_distanceToBase_9 ?_
  refine lv_iconst (v := 2) hx hb dX5_distanceToBase_12 (by decide) ?_
  refine z_ldM (w := g 2) hx hb hK hM 1 rfl 2 (by decide) (by decide) (by decide) rfl dX5_distanceToBase_13 ?_
  refine z_vi (As := [.int (nI k), .int (g 1), .int (g 2)]) (rest := []) (P2 := zMP G ad Y n g τ) (r := zDi (τ 0 k) (τ 1 k) (g 1) (g 2)) S (c_X5_distanceTo l G A ad Y n g hA hn12  τ k (by omega) (g 1) (g 2)) (cwV 3 hts gX5_distanceToBase_X5_distanceTo rfl rfl rfl (by decide +kernel) ⟨Nat.le_of_ble_eq_true rfl, Nat.le_of_ble_eq_true rfl⟩) (z_recM hK hM) hM hK hS (fun _ _ h => h) (fun _ h => h) hl.1 rfl rfl (Nat.le_of_ble_eq_true rfl) dX5_distanceToBase_14 ⟨Nat.le_refl _, Nat.le_refl _⟩ (fun H locs hM hS _ => ?_)
  refine z_top (x2 := zDb g τ k) (by first | with_reducible rfl | (simp only [zDb, eq_self, ne_eq, not_true_eq_false, not_false_eq_true, and_true, true_and, and_self, and_false, false_and, true_or, or_true, false_or, or_false, reduceIte]; done) | (simp [zDb]; done) | rfl | (simp_all [zDb]; done)) ?_
  exact z_iret hx hb hr hlk hK hS (hM) dX5_distanceToBase_17

set_option maxHeartbeats 4000000 in
set_option maxRecDepth 100000 in
theorem c_X5_sendingCost (l : Launch) (G : zG) (A : Nat → Prop) (ad : Nat → Nat) (Y : zY) (n : Nat) (g : Nat → Int32) (hA : zAm G ad A) (hn12 : n ≤ 12) (hd5 : 0 < g 5) (τ : zT) (d : Int32) : zMi l G A yX5_sendingCost wsX5_sendingCost 1 21 [.ref (ad 0), .int d] (zMP G ad Y n g τ) (zCo g d) (zMP G ad Y n g τ) := by
  refine z_met (cc := cX5_sendingCost) (maxL := 2) (ret := (some .int)) (by decide) rfl (Nat.le_of_ble_eq_true rfl) ?_
  intro p e s m below meth c ls S hr hlk hnm hM hK hl
  have S : CallFix p m c cX5_sendingCost 2 s _ wsX5_sendingCost RX5 := S
  obtain ⟨hx, hb, hml, hown, hts⟩ := id S
  have hS : va_S A s.heap s.heap [] := va_S.rf
  have hl : lv_has ls 2 [(0, .ref (ad 0)), (1, .int d)] := hl
  refine lv_aload_n hx hb dX5_sendingCost_0 rfl (lv_at hl 0 rfl) ?_
  refine lv_iconst (v := 1) hx hb dX5_sendingCost_1 (by decide) ?_
  refine z_vi (As := [.int 1]) (rest := []) (P2 := zMP G ad Y n g τ) (r := g 4) S (c_X5_setting l G A ad Y n g hA hn12  τ 1 (by omega)) (cwV 1 hts gX5_sendingCost_X5_setting rfl rfl rfl (by decide +kernel) ⟨Nat.le_of_ble_eq_true rfl, Nat.le_of_ble_eq_true rfl⟩) (z_recM hK hM) hM hK hS (fun _ _ h => h) (fun _ h => h) hl.1 rfl rfl (Nat.le_of_ble_eq_true rfl) dX5_sendingCost_2 ⟨Nat.le_refl _, Nat.le_refl _⟩ (fun H locs hM hS _ => ?_)
  refine lv_iload_n hx hb dX5_sendingCost_5 rfl (lv_at hl 1 rfl) ?_
  refine lv_aload_n hx hb dX5_sendingCost_6 rfl (lv_at hl 0 rfl) ?_
  refine lv_iconst (v := 2) hx hb dX5_sendingCost_7 (by decide) ?_
  refine z_vi (As := [.int 2]) (rest := [.int d, .int (g 4)]) (P2 := zMP G ad Y n g τ) (r := g 5) S (c_X5_setting l G A ad Y n g hA hn12  τ 2 (by omega)) (cwV 1 hts gX5_sendingCost_X5_setting rfl rfl rfl (by decide +kernel) ⟨Nat.le_of_ble_eq_true rfl, Nat.le_of_ble_eq_true rfl⟩) (z_recM hK hM) hM hK hS (fun _ _ h => h) (fun _ h => h) hl.1 rfl rfl (Nat.le_of_ble_eq_true rfl) dX5_sendingCost_8 ⟨Nat.le_refl _, Nat.le_refl _⟩ (fun H locs hM hS _ => ?_)
  refine lv_idiv hx hb dX5_sendingCost_11 (fun q => absurd hd5 (by rw [q]; decide)) ?_
  refine lv_iadd hx hb dX5_sendingCost_12 ?_
  refine z_top (x2 := zCo g d) (by first | with_reducible rfl | (simp only [zCo, eq_self, ne_eq, not_true_eq_false, not_false_eq_true, and_true, true_and, and_self, and_false, false_and, true_or, or_true, false_or, or_false, reduceIte]; done) | (simp [zCo]; done) | rfl | (simp_all [zCo]; done)) ?_
  exact z_iret hx hb hr hlk hK hS (hM) dX5_sendingCost_13

theorem in_X5_pays_X5 : ∀ w ∈ wsX50, w ∈ wsX5_pays := by decide +kernel
set_option maxHeartbeats 4000000 in
set_option maxRecDepth 100000 in
theorem c_X5_pays (l : Launch) (G : zG) (A : Nat → Prop) (ad : Nat → Nat) (Y : zY) (n : Nat) (g : Nat → Int32) (hA : zAm G ad A) (hn12 : n ≤ 12) (τ : zT) (i : Nat) (hi : i < 12) (d : Int32) : zMi l G A yX5_pays wsX5_pays 1 23 [.ref (ad 0), .int (nI i), .int d] (zMP G ad Y n g τ) (zBi (¬ τ 2 i < d)) (zMP G ad Y n g (zPay τ i d)) := by
  refine z_met (cc := cX5_pays) (maxL := 3) (ret := (some .boolean)) (by decide) rfl (Nat.le_of_ble_eq_true rfl) ?_
  intro p e s m below meth c ls S hr hlk hnm hM hK hl
  have S : CallFix p m c cX5_pays 3 s _ wsX5_pays RX5 := S
  obtain ⟨hx, hb, hml, hown, hts⟩ := id S
  have hS : va_S A s.heap s.heap [] := va_S.rf
  have hl : lv_has ls 3 [(0, .ref (ad 0)), (1, .int (nI i)), (2, .int d)] := hl
  refine lv_aload_n hx hb dX5_pays_0 rfl (lv_at hl 0 rfl) ?_
  refine lv_iload_n hx hb dX5_pays_1 rfl (lv_at hl 1 rfl) ?_
  refine lv_iconst (v := 2) hx hb dX5_pays_2 (by decide) ?_
  refine z_vi (As := [.int (nI i), .int 2]) (rest := []) (P2 := zMP G ad Y n g τ) (r := τ 2 i) S (c_X5_of l G A ad Y n g hA hn12  τ i 2 (by omega) (by omega)) (cwV 2 hts gX5_pays_X5_of rfl rfl rfl (by decide +kernel) ⟨Nat.le_of_ble_eq_true rfl, Nat.le_of_ble_eq_true rfl⟩) (z_recM hK hM) hM hK hS (fun _ _ h => h) (fun _ h => h) hl.1 rfl rfl (Nat.le_of_ble_eq_true rfl) dX5_pays_3 ⟨Nat.le_refl _, Nat.le_refl _⟩ (fun H locs hM hS _ => ?_)
  refine lv_iload_n hx hb dX5_pays_6 rfl (lv_at hl 2 rfl) ?_
  refine lv_icmp_ge (tgt := 33) hx hb dX5_pays_7 (by decide) (fun c_1 => ?_) (fun c_2 => ?_)
  · skip
    have c_1 := Int32.not_lt.mpr c_1
    refine lv_aload_n hx hb dX5_pays_33 rfl (lv_at hl 0 rfl) ?_
    refine lv_iload_n hx hb dX5_pays_34 rfl (lv_at hl 1 rfl) ?_
    refine lv_iconst (v := 2) hx hb dX5_pays_35 (by decide) ?_
    refine lv_aload_n hx hb dX5_pays_36 rfl (lv_at hl 0 rfl) ?_
    refine lv_iload_n hx hb dX5_pays_37 rfl (lv_at hl 1 rfl) ?_
    refine lv_iconst (v := 2) hx hb dX5_pays_38 (by decide) ?_
    refine z_vi (As := [.int (nI i), .int 2]) (rest := [.int 2, .int (nI i), .ref (ad 0)]) (P2 := zMP G ad Y n g τ) (r := τ 2 i) S (c_X5_of l G A ad Y n g hA hn12  τ i 2 (by omega) (by omega)) (cwV 2 hts gX5_pays_X5_of rfl rfl rfl (by decide +kernel) ⟨Nat.le_of_ble_eq_true rfl, Nat.le_of_ble_eq_true rfl⟩) (z_recM hK hM) hM hK hS (fun _ _ h => h) (fun _ h => h) hl.1 rfl rfl (Nat.le_of_ble_eq_true rfl) dX5_pays_39 ⟨Nat.le_refl _, Nat.le_refl _⟩ (fun H locs hM hS _ => ?_)
    refine lv_iload_n hx hb dX5_pays_42 rfl (lv_at hl 2 rfl) ?_
    refine lv_isub hx hb dX5_pays_43 ?_
    refine z_vv (As := [.int (nI i), .int 2, .int ((τ 2 i) - d)]) (rest := []) (P2 := zMP G ad Y n g (zSt τ 2 i ((τ 2 i) - d))) S (c_X5_set l G A ad Y n g hA hn12  τ i 2 (by omega) (by omega) ((τ 2 i) - d)) (cwV 3 hts gX5_pays_X5_set rfl rfl rfl (by decide +kernel) ⟨Nat.le_of_ble_eq_true rfl, Nat.le_of_ble_eq_true rfl⟩) (z_recM hK hM) hM hK hS (fun _ _ h => h) (fun _ h => h) hl.1 rfl rfl (Nat.le_of_ble_eq_true rfl) dX5_pays_44 ⟨Nat.le_refl _, Nat.le_refl _⟩ (fun H locs hM hS _ => ?_)
    refine lv_aload_n hx hb dX5_pays_47 rfl (lv_at hl 0 rfl) ?_
    refine z_getM (v := .ref (ad 1)) hx hb hts hown in_X5_pays_X5 hK hM 1 (by decide) rfl (hts _ (List.mem_of_getElem? (i := 1) (by decide +kernel))) rfl dX5_pays_48 ?_
    refine lv_bipush (v := 14) hx hb dX5_pays_51 (by decide) ?_
    refine lv_dup2_11 hx hb dX5_pays_53 rfl rfl ?_
    refine z_ldM (w := τ 11 14) hx hb hK hM 1 rfl 14 (by decide) (by decide) (by decide) rfl dX5_pays_54 ?_
    refine lv_iload_n hx hb dX5_pays_55 rfl (lv_at hl 2 rfl) ?_
    refine lv_iadd hx hb dX5_pays_56 ?_
    refine z_stM (w := (τ 11 14) + d) hx hb hK hA hS hM 1 rfl 14 (by decide) (by decide) (by decide) (zMP G ad Y n g (zSt (zSt τ 2 i ((τ 2 i) - d)) 11 14 ((τ 11 14) + d))) (z_mg G ad Y n g (zSt τ 2 i ((τ 2 i) - d)) (by decide) (by decide) ((τ 11 14) + d)) dX5_pays_57 (fun H locs hM hS => ?_)
    refine lv_iconst (v := 1) hx hb dX5_pays_58 (by decide) ?_
    refine z_top (x2 := zBi (¬ τ 2 i < d)) (by first | with_reducible rfl | (simp only [zPay, zPd, zDie, zBi, c_1, eq_self, ne_eq, not_true_eq_false, not_false_eq_true, and_true, true_and, and_self, and_false, false_and, true_or, or_true, false_or, or_false, reduceIte]; done) | (simp [zPay, zPd, zDie, zBi, c_1]; done) | rfl | (simp_all [zPay, zPd, zDie, zBi]; done)) ?_
    exact z_zret hx hb hr hlk zBi_nar hK hS (hM.cast rfl rfl rfl (by first | with_reducible rfl | (simp only [zPay, zPd, zDie, zBi, c_1, eq_self, ne_eq, not_true_eq_false, not_false_eq_true, and_true, true_and, and_self, and_false, false_and, true_or, or_true, false_or, or_false, reduceIte]; done) | (simp [zPay, zPd, zDie, zBi, c_1]; done) | rfl | (simp_all [zPay, zPd, zDie, zBi]; done))) dX5_pays_59
  · skip
    have c_2 := Int32.not_le.mp c_2
    refine lv_aload_n hx hb dX5_pays_10 rfl (lv_at hl 0 rfl) ?_
    refine lv_iload_n hx hb dX5_pays_11 rfl (lv_at hl 1 rfl) ?_
    refine lv_iconst (v := 3) hx hb dX5_pays_12 (by decide) ?_
    refine lv_iconst (v := 0) hx hb dX5_pays_13 (by decide) ?_
    refine z_vv (As := [.int (nI i), .int 3, .int 0]) (rest := []) (P2 := zMP G ad Y n g (zSt τ 3 i 0)) S (c_X5_set l G A ad Y n g hA hn12  τ i 3 (by omega) (by omega) 0) (cwV 3 hts gX5_pays_X5_set rfl rfl rfl (by decide +kernel) ⟨Nat.le_of_ble_eq_true rfl, Nat.le_of_ble_eq_true rfl⟩) (z_recM hK hM) hM hK hS (fun _ _ h => h) (fun _ h => h) hl.1 rfl rfl (Nat.le_of_ble_eq_true rfl) dX5_pays_14 ⟨Nat.le_refl _, Nat.le_refl _⟩ (fun H locs hM hS _ => ?_)
    refine lv_aload_n hx hb dX5_pays_17 rfl (lv_at hl 0 rfl) ?_
    refine lv_iload_n hx hb dX5_pays_18 rfl (lv_at hl 1 rfl) ?_
    refine lv_bipush (v := 6) hx hb dX5_pays_19 (by decide) ?_
    refine lv_aload_n hx hb dX5_pays_21 rfl (lv_at hl 0 rfl) ?_
    refine z_getM (v := .ref (ad 1)) hx hb hts hown in_X5_pays_X5 hK hM 1 (by decide) rfl (hts _ (List.mem_of_getElem? (i := 1) (by decide +kernel))) rfl dX5_pays_22 ?_
    refine lv_bipush (v := 10) hx hb dX5_pays_25 (by decide) ?_
    refine z_ldM (w := τ 11 10) hx hb hK hM 1 rfl 10 (by decide) (by decide) (by decide) rfl dX5_pays_27 ?_
    refine z_vv (As := [.int (nI i), .int 6, .int (τ 11 10)]) (rest := []) (P2 := zMP G ad Y n g (zSt (zSt τ 3 i 0) 6 i (τ 11 10))) S (c_X5_set l G A ad Y n g hA hn12  (zSt τ 3 i 0) i 6 (by omega) (by omega) (τ 11 10)) (cwV 3 hts gX5_pays_X5_set rfl rfl rfl (by decide +kernel) ⟨Nat.le_of_ble_eq_true rfl, Nat.le_of_ble_eq_true rfl⟩) (z_recM hK hM) hM hK hS (fun _ _ h => h) (fun _ h => h) hl.1 rfl rfl (Nat.le_of_ble_eq_true rfl) dX5_pays_28 ⟨Nat.le_refl _, Nat.le_refl _⟩ (fun H locs hM hS _ => ?_)
    refine lv_iconst (v := 0) hx hb dX5_pays_31 (by decide) ?_
    refine z_top (x2 := zBi (¬ τ 2 i < d)) (by first | with_reducible rfl | (simp only [zPay, zPd, zDie, zBi, c_2, eq_self, ne_eq, not_true_eq_false, not_false_eq_true, and_true, true_and, and_self, and_false, false_and, true_or, or_true, false_or, or_false, reduceIte]; done) | (simp [zPay, zPd, zDie, zBi, c_2]; done) | rfl | (simp_all [zPay, zPd, zDie, zBi]; done)) ?_
    exact z_zret hx hb hr hlk zBi_nar hK hS (hM.cast rfl rfl rfl (by first | with_reducible rfl | (simp only [zPay, zPd, zDie, zBi, c_2, eq_self, ne_eq, not_true_eq_false, not_false_eq_true, and_true, true_and, and_self, and_false, false_and, true_or, or_true, false_or, or_false, reduceIte]; done) | (simp [zPay, zPd, zDie, zBi, c_2]; done) | rfl | (simp_all [zPay, zPd, zDie, zBi]; done))) dX5_pays_32

set_option maxHeartbeats 4000000 in
set_option maxRecDepth 100000 in
theorem c_X5_takesIn (l : Launch) (G : zG) (A : Nat → Prop) (ad : Nat → Nat) (Y : zY) (n : Nat) (g : Nat → Int32) (hA : zAm G ad A) (hn12 : n ≤ 12) (τ : zT) (h : Nat) (hh : h < 12) : zMi l G A yX5_takesIn wsX5_takesIn 2 45 [.ref (ad 0), .int (nI h)] (zMP G ad Y n g τ) ((zTk g τ h).2) (zMP G ad Y n g ((zTk g τ h).1)) := by
  refine z_met (cc := cX5_takesIn) (maxL := 2) (ret := (some .boolean)) (by decide) rfl (Nat.le_of_ble_eq_true rfl) ?_
  intro p e s m below meth c ls S hr hlk hnm hM hK hl
  have S : CallFix p m c cX5_takesIn 2 s _ wsX5_takesIn RX5 := S
  obtain ⟨hx, hb, hml, hown, hts⟩ := id S
  have hS : va_S A s.heap s.heap [] := va_S.rf
  have hl : lv_has ls 2 [(0, .ref (ad 0)), (1, .int (nI h))] := hl
  refine lv_aload_n hx hb dX5_takesIn_0 rfl (lv_at hl 0 rfl) ?_
  refine lv_iload_n hx hb dX5_takesIn_1 rfl (lv_at hl 1 rfl) ?_
  refine z_vi (As := [.int (nI h)]) (rest := []) (P2 := zMP G ad Y n g τ) (r := zBi (τ 3 h = 1)) S (c_X5_lives l G A ad Y n g hA hn12  τ h (by omega)) (cwV 1 hts gX5_takesIn_X5_lives rfl rfl rfl (by decide +kernel) ⟨Nat.le_of_ble_eq_true rfl, Nat.le_of_ble_eq_true rfl⟩) (z_recM hK hM) hM hK hS (fun _ _ h => h) (fun _ h => h) hl.1 rfl rfl (Nat.le_of_ble_eq_true rfl) dX5_takesIn_2 ⟨Nat.le_refl _, Nat.le_refl _⟩ (fun H locs hM hS _ => ?_)
  refine lv_if_eq (tgt := 38) hx hb dX5_takesIn_5 (by decide) (fun c_1 => ?_) (fun c_2 => ?_)
  · skip
    have c_1 := zBi_0.mp c_1
    refine lv_iconst (v := 0) hx hb dX5_takesIn_38 (by decide) ?_
    refine z_top (x2 := (zTk g τ h).2) (by first | with_reducible rfl | (simp only [zTk, c_1, eq_self, ne_eq, not_true_eq_false, not_false_eq_true, and_true, true_and, and_self, and_false, false_and, true_or, or_true, false_or, or_false, reduceIte]; done) | (simp [zTk, c_1]; done) | rfl | (simp_all [zTk]; done)) ?_
    exact z_zret hx hb hr hlk (by rcases zTk_bit g τ h with q | q <;> rw [q] <;> decide) hK hS (hM.cast rfl rfl rfl (by first | with_reducible rfl | (simp only [zTk, c_1, eq_self, ne_eq, not_true_eq_false, not_false_eq_true, and_true, true_and, and_self, and_false, false_and, true_or, or_true, false_or, or_false, reduceIte]; done) | (simp [zTk, c_1]; done) | rfl | (simp_all [zTk]; done))) dX5_takesIn_39
  · skip
    have c_2 := zBi_n0.mp c_2
    refine lv_aload_n hx hb dX5_takesIn_8 rfl (lv_at hl 0 rfl) ?_
    refine lv_iload_n hx hb dX5_takesIn_9 rfl (lv_at hl 1 rfl) ?_
    refine lv_aload_n hx hb dX5_takesIn_10 rfl (lv_at hl 0 rfl) ?_
    refine lv_iconst (v := 1) hx hb dX5_takesIn_11 (by decide) ?_
    refine z_vi (As := [.int 1]) (rest := [.int (nI h), .ref (ad 0)]) (P2 := zMP G ad Y n g τ) (r := g 4) S (c_X5_setting l G A ad Y n g hA hn12  τ 1 (by omega)) (cwV 1 hts gX5_takesIn_X5_setting rfl rfl rfl (by decide +kernel) ⟨Nat.le_of_ble_eq_true rfl, Nat.le_of_ble_eq_true rfl⟩) (z_recM hK hM) hM hK hS (fun _ _ h => h) (fun _ h => h) hl.1 rfl rfl (Nat.le_of_ble_eq_true rfl) dX5_takesIn_12 ⟨Nat.le_refl _, Nat.le_refl _⟩ (fun H locs hM hS _ => ?_)
    refine z_vi (As := [.int (nI h), .int (g 4)]) (rest := []) (P2 := zMP G ad Y n g (zPay τ h (g 4))) (r := zBi (¬ τ 2 h < (g 4))) S (c_X5_pays l G A ad Y n g hA hn12  τ h (by omega) (g 4)) (cwV 2 hts gX5_takesIn_X5_pays rfl rfl rfl (by decide +kernel) ⟨Nat.le_of_ble_eq_true rfl, Nat.le_of_ble_eq_true rfl⟩) (z_recM hK hM) hM hK hS (fun _ _ h => h) (fun _ h => h) hl.1 rfl rfl (Nat.le_of_ble_eq_true rfl) dX5_takesIn_15 ⟨Nat.le_refl _, Nat.le_refl _⟩ (fun H locs hM hS _ => ?_)
    refine lv_if_eq (tgt := 38) hx hb dX5_takesIn_18 (by decide) (fun c_3 => ?_) (fun c_4 => ?_)
    · skip
      have c_3 := zBi_0.mp c_3
      have c_3 := Decidable.of_not_not c_3
      have hM := hM.cast rfl rfl rfl (zPay_n c_3)
      refine lv_iconst (v := 0) hx hb dX5_takesIn_38 (by decide) ?_
      refine z_top (x2 := (zTk g τ h).2) (by first | with_reducible rfl | (simp only [zTk, c_2, c_3, eq_self, ne_eq, not_true_eq_false, not_false_eq_true, and_true, true_and, and_self, and_false, false_and, true_or, or_true, false_or, or_false, reduceIte]; done) | (simp [zTk, c_2, c_3]; done) | rfl | (simp_all [zTk]; done)) ?_
      exact z_zret hx hb hr hlk (by rcases zTk_bit g τ h with q | q <;> rw [q] <;> decide) hK hS (hM.cast rfl rfl rfl (by first | with_reducible rfl | (simp only [zTk, c_2, c_3, eq_self, ne_eq, not_true_eq_false, not_false_eq_true, and_true, true_and, and_self, and_false, false_and, true_or, or_true, false_or, or_false, reduceIte]; done) | (simp [zTk, c_2, c_3]; done) | rfl | (simp_all [zTk]; done))) dX5_takesIn_39
    · skip
      have c_4 := zBi_n0.mp c_4
      have hM := hM.cast rfl rfl rfl (zPay_y c_4)
      refine lv_aload_n hx hb dX5_takesIn_21 rfl (lv_at hl 0 rfl) ?_
      refine lv_iload_n hx hb dX5_takesIn_22 rfl (lv_at hl 1 rfl) ?_
      refine lv_aload_n hx hb dX5_takesIn_23 rfl (lv_at hl 0 rfl) ?_
      refine lv_iconst (v := 3) hx hb dX5_takesIn_24 (by decide) ?_
      refine z_vi (As := [.int 3]) (rest := [.int (nI h), .ref (ad 0)]) (P2 := zMP G ad Y n g (zPd τ h (g 4))) (r := g 6) S (c_X5_setting l G A ad Y n g hA hn12  (zPd τ h (g 4)) 3 (by omega)) (cwV 1 hts gX5_takesIn_X5_setting rfl rfl rfl (by decide +kernel) ⟨Nat.le_of_ble_eq_true rfl, Nat.le_of_ble_eq_true rfl⟩) (z_recM hK hM) hM hK hS (fun _ _ h => h) (fun _ h => h) hl.1 rfl rfl (Nat.le_of_ble_eq_true rfl) dX5_takesIn_25 ⟨Nat.le_refl _, Nat.le_refl _⟩ (fun H locs hM hS _ => ?_)
      refine z_vi (As := [.int (nI h), .int (g 6)]) (rest := []) (P2 := zMP G ad Y n g (zPay (zPd τ h (g 4)) h (g 6))) (r := zBi (¬ (zPd τ h (g 4)) 2 h < (g 6))) S (c_X5_pays l G A ad Y n g hA hn12  (zPd τ h (g 4)) h (by omega) (g 6)) (cwV 2 hts gX5_takesIn_X5_pays rfl rfl rfl (by decide +kernel) ⟨Nat.le_of_ble_eq_true rfl, Nat.le_of_ble_eq_true rfl⟩) (z_recM hK hM) hM hK hS (fun _ _ h => h) (fun _ h => h) hl.1 rfl rfl (Nat.le_of_ble_eq_true rfl) dX5_takesIn_28 ⟨Nat.le_refl _, Nat.le_refl _⟩ (fun H locs hM hS _ => ?_)
      refine lv_if_eq (tgt := 38) hx hb dX5_takesIn_31 (by decide) (fun c_5 => ?_) (fun c_6 => ?_)
      · skip
        have c_5 := zBi_0.mp c_5
        have c_5 := Decidable.of_not_not c_5
        have hM := hM.cast rfl rfl rfl (zPay_n c_5)
        refine lv_iconst (v := 0) hx hb dX5_takesIn_38 (by decide) ?_
        refine z_top (x2 := (zTk g τ h).2) (by first | with_reducible rfl | (simp only [zTk, c_2, c_4, c_5, eq_self, ne_eq, not_true_eq_false, not_false_eq_true, and_true, true_and, and_self, and_false, false_and, true_or, or_true, false_or, or_false, reduceIte]; done) | (simp [zTk, c_2, c_4, c_5]; done) | rfl | (simp_all [zTk]; done)) ?_
        exact z_zret hx hb hr hlk (by rcases zTk_bit g τ h with q | q <;> rw [q] <;> decide) hK hS (hM.cast rfl rfl rfl (by first | with_reducible rfl | (simp only [zTk, c_2, c_4, c_5, eq_self, ne_eq, not_true_eq_false, not_false_eq_true, and_true, true_and, and_self, and_false, false_and, true_or, or_true, false_or, or_false, reduceIte]; done) | (simp [zTk, c_2, c_4, c_5]; done) | rfl | (simp_all [zTk]; done))) dX5_takesIn_39
      · skip
        have c_6 := zBi_n0.mp c_6
        have hM := hM.cast rfl rfl rfl (zPay_y c_6)
        refine lv_iconst (v := 1) hx hb dX5_takesIn_34 (by decide) ?_
        refine lv_goto (tgt := 39) hx hb dX5_takesIn_35 (by decide) ?_
        refine z_top (x2 := (zTk g τ h).2) (by first | with_reducible rfl | (simp only [zTk, c_2, c_4, c_6, eq_self, ne_eq, not_true_eq_false, not_false_eq_true, and_true, true_and, and_self, and_false, false_and, true_or, or_true, false_or, or_false, reduceIte]; done) | (simp [zTk, c_2, c_4, c_6]; done) | rfl | (simp_all [zTk]; done)) ?_
        exact z_zret hx hb hr hlk (by rcases zTk_bit g τ h with q | q <;> rw [q] <;> decide) hK hS (hM.cast rfl rfl rfl (by first | with_reducible rfl | (simp only [zTk, c_2, c_4, c_6, eq_self, ne_eq, not_true_eq_false, not_false_eq_true, and_true, true_and, and_self, and_false, false_and, true_or, or_true, false_or, or_false, reduceIte]; done) | (simp [zTk, c_2, c_4, c_6]; done) | rfl | (simp_all [zTk]; done))) dX5_takesIn_39

theorem in_X5_draw_X5 : ∀ w ∈ wsX50, w ∈ wsX5_draw := by decide +kernel
set_option maxHeartbeats 4000000 in
set_option maxRecDepth 100000 in
theorem c_X5_draw (l : Launch) (G : zG) (A : Nat → Prop) (ad : Nat → Nat) (Y : zY) (n : Nat) (g : Nat → Int32) (hA : zAm G ad A) (hn12 : n ≤ 12) (τ : zT) : zMi l G A yX5_draw wsX5_draw 0 0 [.ref (ad 0)] (zMP G ad Y n g τ) (zDr (zNx (τ 11 9))) (zMP G ad Y n g (zDw τ)) := by
  refine z_met (cc := cX5_draw) (maxL := 1) (ret := (some .int)) (by decide) rfl (Nat.le_of_ble_eq_true rfl) ?_
  intro p e s m below meth c ls S hr hlk hnm hM hK hl
  have S : CallFix p m c cX5_draw 1 s _ wsX5_draw RX5 := S
  obtain ⟨hx, hb, hml, hown, hts⟩ := id S
  have hS : va_S A s.heap s.heap [] := va_S.rf
  have hl : lv_has ls 1 [(0, .ref (ad 0))] := hl
  refine lv_aload_n hx hb dX5_draw_0 rfl (lv_at hl 0 rfl) ?_
  refine z_getM (v := .ref (ad 1)) hx hb hts hown in_X5_draw_X5 hK hM 1 (by decide) rfl (hts _ (List.mem_of_getElem? (i := 1) (by decide +kernel))) rfl dX5_draw_1 ?_
  refine lv_bipush (v := 9) hx hb dX5_draw_4 (by decide) ?_
  refine lv_aload_n hx hb dX5_draw_6 rfl (lv_at hl 0 rfl) ?_
  refine z_getM (v := .ref (ad 1)) hx hb hts hown in_X5_draw_X5 hK hM 1 (by decide) rfl (hts _ (List.mem_of_getElem? (i := 1) (by decide +kernel))) rfl dX5_draw_7 ?_
  refine lv_bipush (v := 9) hx hb dX5_draw_10 (by decide) ?_
  refine z_ldM (w := τ 11 9) hx hb hK hM 1 rfl 9 (by decide) (by decide) (by decide) rfl dX5_draw_12 ?_
  refine lv_ldc (v := 1103515245) hx hb hown (hts _ (List.mem_of_getElem? (i := 2) (by decide +kernel))) dX5_draw_13 ?_
  refine lv_imul hx hb dX5_draw_15 ?_
  refine lv_sipush (v := 12345) hx hb dX5_draw_16 (by decide) ?_
  refine lv_iadd hx hb dX5_draw_19 ?_
  refine lv_ldc (v := 2147483647) hx hb hown (hts _ (List.mem_of_getElem? (i := 3) (by decide +kernel))) dX5_draw_20 ?_
  refine lv_iand hx hb dX5_draw_22 ?_
  refine z_stM (w := (((τ 11 9) * 1103515245) + 12345) &&& 2147483647) hx hb hK hA hS hM 1 rfl 9 (by decide) (by decide) (by decide) (zMP G ad Y n g (zSt τ 11 9 ((((τ 11 9) * 1103515245) + 12345) &&& 2147483647))) (z_mg G ad Y n g τ (by decide) (by decide) ((((τ 11 9) * 1103515245) + 12345) &&& 2147483647)) dX5_draw_23 (fun H locs hM hS => ?_)
  refine lv_aload_n hx hb dX5_draw_24 rfl (lv_at hl 0 rfl) ?_
  refine z_getM (v := .ref (ad 1)) hx hb hts hown in_X5_draw_X5 hK hM 1 (by decide) rfl (hts _ (List.mem_of_getElem? (i := 1) (by decide +kernel))) rfl dX5_draw_25 ?_
  refine lv_bipush (v := 9) hx hb dX5_draw_28 (by decide) ?_
  refine z_ldM (w := (((τ 11 9) * 1103515245) + 12345) &&& 2147483647) hx hb hK hM 1 rfl 9 (by decide) (by decide) (by decide) (zSt_self τ 11 9 ((((τ 11 9) * 1103515245) + 12345) &&& 2147483647)) dX5_draw_30 ?_
  refine lv_ldc (v := 65536) hx hb hown (hts _ (List.mem_of_getElem? (i := 4) (by decide +kernel))) dX5_draw_31 ?_
  refine lv_idiv hx hb dX5_draw_33 (by decide) ?_
  refine lv_sipush (v := 1000) hx hb dX5_draw_34 (by decide) ?_
  refine lv_irem hx hb dX5_draw_37 (by decide) ?_
  refine z_top (x2 := zDr (zNx (τ 11 9))) (by first | with_reducible rfl | (simp only [zDr, zNx, zDw, eq_self, ne_eq, not_true_eq_false, not_false_eq_true, and_true, true_and, and_self, and_false, false_and, true_or, or_true, false_or, or_false, reduceIte]; done) | (simp [zDr, zNx, zDw]; done) | rfl | (simp_all [zDr, zNx, zDw]; done)) ?_
  exact z_iret hx hb hr hlk hK hS (hM.cast rfl rfl rfl (by first | with_reducible rfl | (simp only [zDr, zNx, zDw, eq_self, ne_eq, not_true_eq_false, not_false_eq_true, and_true, true_and, and_self, and_false, false_and, true_or, or_true, false_or, or_false, reduceIte]; done) | (simp [zDr, zNx, zDw]; done) | rfl | (simp_all [zDr, zNx, zDw]; done))) dX5_draw_38

theorem in_X5_elect_X5 : ∀ w ∈ wsX50, w ∈ wsX5_elect := by decide +kernel
set_option maxHeartbeats 4000000 in
set_option maxRecDepth 100000 in
theorem c_X5_elect (l : Launch) (G : zG) (A : Nat → Prop) (ad : Nat → Nat) (Y : zY) (n : Nat) (g : Nat → Int32) (hA : zAm G ad A) (hn12 : n ≤ 12) (hd3 : 0 < g 3) (τ : zT) : zMv l G A yX5_elect wsX5_elect 2 43 [.ref (ad 0)] (zMP G ad Y n g τ) (zMP G ad Y n g (zEm n g τ)) := by
  refine z_met (cc := cX5_elect) (maxL := 3) (ret := none) (by decide) rfl (Nat.le_of_ble_eq_true rfl) ?_
  intro p e s m below meth c ls S hr hlk hnm hM hK hl
  have S : CallFix p m c cX5_elect 3 s _ wsX5_elect RX5 := S
  obtain ⟨hx, hb, hml, hown, hts⟩ := id S
  have hS : va_S A s.heap s.heap [] := va_S.rf
  have hl : lv_has ls 3 [(0, .ref (ad 0))] := hl
  refine lv_aload_n hx hb dX5_elect_0 rfl (lv_at hl 0 rfl) ?_
  refine z_getM (v := .ref (ad 1)) hx hb hts hown in_X5_elect_X5 hK hM 1 (by decide) rfl (hts _ (List.mem_of_getElem? (i := 1) (by decide +kernel))) rfl dX5_elect_1 ?_
  refine lv_bipush (v := 10) hx hb dX5_elect_4 (by decide) ?_
  refine z_ldM (w := τ 11 10) hx hb hK hM 1 rfl 10 (by decide) (by decide) (by decide) rfl dX5_elect_6 ?_
  refine lv_aload_n hx hb dX5_elect_7 rfl (lv_at hl 0 rfl) ?_
  refine lv_iconst (v := 0) hx hb dX5_elect_8 (by decide) ?_
  refine z_vi (As := [.int 0]) (rest := [.int (τ 11 10)]) (P2 := zMP G ad Y n g τ) (r := g 3) S (c_X5_setting l G A ad Y n g hA hn12  τ 0 (by omega)) (cwV 1 hts gX5_elect_X5_setting rfl rfl rfl (by decide +kernel) ⟨Nat.le_of_ble_eq_true rfl, Nat.le_of_ble_eq_true rfl⟩) (z_recM hK hM) hM hK hS (fun _ _ h => h) (fun _ h => h) hl.1 rfl rfl (Nat.le_of_ble_eq_true rfl) dX5_elect_9 ⟨Nat.le_refl _, Nat.le_refl _⟩ (fun H locs hM hS _ => ?_)
  refine lv_irem hx hb dX5_elect_12 (fun q => absurd hd3 (by rw [q]; decide)) ?_
  refine z_top (x2 := zPh g τ) rfl ?_
  refine lv_istore_n (lv' := [(1, .int (zPh g τ)), (0, .ref (ad 0))]) hx hb dX5_elect_13 rfl hl (by decide) rfl (fun ls hl => ?_)
  refine lv_iconst (v := 0) hx hb dX5_elect_14 (by decide) ?_
  refine lv_istore_n (lv' := [(2, .int 0), (1, .int (zPh g τ)), (0, .ref (ad 0))]) hx hb dX5_elect_15 rfl hl (by decide) rfl (fun ls hl => ?_)
  have loop1 : ∀ (f1 k : Nat) (H : Heap) (locs : List Loc) (ls : Array Slot), k ≤ n → n < k + f1 → zMP G ad Y n g (zIt (zBgM (zPh g τ)) k τ) H → va_S A s.heap H locs → lv_has ls 3 [(2, .int (nI k)), (1, .int (zPh g τ)), (0, .ref (ad 0))] → W p l e ({ frames := 2, cells := 0, slots := 0, locals := 43 } : Room) s m ([.ref (ad 0)] : List Value).toArray below meth c H locs 0 0 (MQ below (zQv G (zMP G ad Y n g (zEm n g τ)) A) ([.ref (ad 0)] : List Value).toArray s 0 0 A) (F0 m 16 ls []) := by
    intro f1
    induction f1 with
    | zero => intro k H locs ls h1 h2; exact absurd h2 (by omega)
    | succ f1 ih1 =>
      intro k H locs ls hk1 hf1 hM hS hl
      generalize hF_τk : zIt (zBgM (zPh g τ)) k τ = τk at hM hl 
      refine lv_iload_n hx hb dX5_elect_16 rfl (lv_at hl 0 rfl) ?_
      refine lv_aload_n hx hb dX5_elect_17 rfl (lv_at hl 2 rfl) ?_
      refine z_getM (v := .ref (ad 1)) hx hb hts hown in_X5_elect_X5 hK hM 1 (by decide) rfl (hts _ (List.mem_of_getElem? (i := 1) (by decide +kernel))) rfl dX5_elect_18 ?_
      refine lv_iconst (v := 0) hx hb dX5_elect_21 (by decide) ?_
      refine z_ldM (w := nI n) hx hb hK hM 1 rfl 0 (by decide) (by decide) (by decide) rfl dX5_elect_22 ?_
      refine lv_icmp_ge (tgt := 77) hx hb dX5_elect_23 (by decide) (fun c_1 => ?_) (fun c_2 => ?_)
      · skip
        have c_1 := (z_leI (a := n) (b := k) (by omega) (by omega)).mp c_1
        have hkn1 : k = n := by omega
        rw [hkn1] at hF_τk
        subst hF_τk
        refine lv_iconst (v := 0) hx hb dX5_elect_77 (by decide) ?_
        refine lv_istore_n (lv' := [(2, .int 0), (1, .int (zPh g τ)), (0, .ref (ad 0))]) hx hb dX5_elect_78 rfl hl (by decide) rfl (fun ls hl => ?_)
        have loop2 : ∀ (f2 h : Nat) (H : Heap) (locs : List Loc) (ls : Array Slot), h ≤ n → n < h + f2 → zMP G ad Y n g (zIt (zElM (g 3 - zPh g τ)) h (zIt (zBgM (zPh g τ)) n τ)) H → va_S A s.heap H locs → lv_has ls 3 [(2, .int (nI h)), (1, .int (zPh g τ)), (0, .ref (ad 0))] → W p l e ({ frames := 2, cells := 0, slots := 0, locals := 43 } : Room) s m ([.ref (ad 0)] : List Value).toArray below meth c H locs 0 0 (MQ below (zQv G (zMP G ad Y n g (zEm n g τ)) A) ([.ref (ad 0)] : List Value).toArray s 0 0 A) (F0 m 79 ls []) := by
          intro f2
          induction f2 with
          | zero => intro h H locs ls h1 h2; exact absurd h2 (by omega)
          | succ f2 ih2 =>
            intro h H locs ls hk2 hf2 hM hS hl
            generalize hF_τh : zIt (zElM (g 3 - zPh g τ)) h (zIt (zBgM (zPh g τ)) n τ) = τh at hM hl 
            refine lv_iload_n hx hb dX5_elect_79 rfl (lv_at hl 0 rfl) ?_
            refine lv_aload_n hx hb dX5_elect_80 rfl (lv_at hl 2 rfl) ?_
            refine z_getM (v := .ref (ad 1)) hx hb hts hown in_X5_elect_X5 hK hM 1 (by decide) rfl (hts _ (List.mem_of_getElem? (i := 1) (by decide +kernel))) rfl dX5_elect_81 ?_
            refine lv_iconst (v := 0) hx hb dX5_elect_84 (by decide) ?_
            refine z_ldM (w := nI n) hx hb hK hM 1 rfl 0 (by decide) (by decide) (by decide) rfl dX5_elect_85 ?_
            refine lv_icmp_ge (tgt := 142) hx hb dX5_elect_86 (by decide) (fun c_3 => ?_) (fun c_4 => ?_)
            · skip
              have c_3 := (z_leI (a := n) (b := h) (by omega) (by omega)).mp c_3
              have hkn2 : h = n := by omega
              rw [hkn2] at hF_τh
              subst hF_τh
              exact z_vret hx hb hr hlk hK hS (hM.cast rfl rfl rfl (by first | with_reducible rfl | (simp only [zEm, c_1, c_3, eq_self, ne_eq, not_true_eq_false, not_false_eq_true, and_true, true_and, and_self, and_false, false_and, true_or, or_true, false_or, or_false, reduceIte]; done) | (simp [zEm, c_1, c_3]; done) | rfl | (simp_all [zEm]; done))) dX5_elect_142
            · skip
              have c_4 := (not_congr (z_leI (a := n) (b := h) (by omega) (by omega))).mp c_4
              refine lv_aload_n hx hb dX5_elect_89 rfl (lv_at hl 2 rfl) ?_
              refine z_getM (v := .ref (ad 6)) hx hb hts hown in_X5_elect_X5 hK hM 7 (by decide) rfl (hts _ (List.mem_of_getElem? (i := 3) (by decide +kernel))) rfl dX5_elect_90 ?_
              refine lv_iload_n hx hb dX5_elect_93 rfl (lv_at hl 0 rfl) ?_
              refine lv_aload_n hx hb dX5_elect_94 rfl (lv_at hl 2 rfl) ?_
              refine lv_iload_n hx hb dX5_elect_95 rfl (lv_at hl 0 rfl) ?_
              refine z_vi (As := [.int (nI h)]) (rest := [.int (nI h), .ref (ad 6)]) (P2 := zMP G ad Y n g τh) (r := zBi (τh 3 h = 1)) S (c_X5_lives l G A ad Y n g hA hn12  τh h (by omega)) (cwV 1 hts gX5_elect_X5_lives rfl rfl rfl (by decide +kernel) ⟨Nat.le_of_ble_eq_true rfl, Nat.le_of_ble_eq_true rfl⟩) (z_recM hK hM) hM hK hS (fun _ _ h => h) (fun _ h => h) hl.1 rfl rfl (Nat.le_of_ble_eq_true rfl) dX5_elect_96 ⟨Nat.le_refl _, Nat.le_refl _⟩ (fun H locs hM hS _ => ?_)
              refine lv_if_eq (tgt := 134) hx hb dX5_elect_99 (by decide) (fun c_5 => ?_) (fun c_6 => ?_)
              · skip
                have c_5 := zBi_0.mp c_5
                refine lv_iconst (v := 0) hx hb dX5_elect_134 (by decide) ?_
                refine z_stMz (w := 0) hx hb hK hA hS hM 6 rfl (by decide) h rfl (by omega) (by decide) (zMP G ad Y n g (zSt τh 10 h 0)) (z_me G ad Y n g τh h (by decide)) dX5_elect_135 (fun H locs hM hS => ?_)
                refine lv_iinc (v := nI (h + 1)) (lv' := [(2, .int (nI (h + 1))), (1, .int (zPh g τ)), (0, .ref (ad 0))]) hx hb dX5_elect_136 hl (k := 0) rfl (nI_1 _) (by decide) rfl (fun ls hl => ?_)
                refine lv_goto (tgt := 79) hx hb dX5_elect_139 (by decide) ?_
                have e_7 : zIt (zElM (g 3 - zPh g τ)) (h + 1) (zIt (zBgM (zPh g τ)) n τ) = zSt τh 10 h 0 := by
                  rw [zIt_s, hF_τh]
                  first | with_reducible rfl | (simp only [zElM, zBi, c_1, c_4, c_5, eq_self, ne_eq, not_true_eq_false, not_false_eq_true, and_true, true_and, and_self, and_false, false_and, true_or, or_true, false_or, or_false, reduceIte]; done) | (simp [zElM, zBi, c_1, c_4, c_5]; done) | rfl | (simp_all [zElM, zBi]; done)
                refine ih2 (h + 1) _ _ _ (by omega) (by omega) ?_ hS ?_
                · first | exact hM | (rw [e_7]; exact hM)
                · first | exact lv_sub hl [0, 1, 2] rfl | (rw [e_7]; exact lv_sub hl [0, 1, 2] rfl)
              · skip
                have c_6 := zBi_n0.mp c_6
                refine lv_aload_n hx hb dX5_elect_102 rfl (lv_at hl 2 rfl) ?_
                refine lv_iload_n hx hb dX5_elect_103 rfl (lv_at hl 0 rfl) ?_
                refine lv_iconst (v := 4) hx hb dX5_elect_104 (by decide) ?_
                refine z_vi (As := [.int (nI h), .int 4]) (rest := [.int (nI h), .ref (ad 6)]) (P2 := zMP G ad Y n g τh) (r := τh 4 h) S (c_X5_of l G A ad Y n g hA hn12  τh h 4 (by omega) (by omega)) (cwV 2 hts gX5_elect_X5_of rfl rfl rfl (by decide +kernel) ⟨Nat.le_of_ble_eq_true rfl, Nat.le_of_ble_eq_true rfl⟩) (z_recM hK hM) hM hK hS (fun _ _ h => h) (fun _ h => h) hl.1 rfl rfl (Nat.le_of_ble_eq_true rfl) dX5_elect_105 ⟨Nat.le_refl _, Nat.le_refl _⟩ (fun H locs hM hS _ => ?_)
                refine lv_iconst (v := 1) hx hb dX5_elect_108 (by decide) ?_
                refine lv_icmp_ne (tgt := 134) hx hb dX5_elect_109 (by decide) (fun c_8 => ?_) (fun c_9 => ?_)
                · skip
                  refine lv_iconst (v := 0) hx hb dX5_elect_134 (by decide) ?_
                  refine z_stMz (w := 0) hx hb hK hA hS hM 6 rfl (by decide) h rfl (by omega) (by decide) (zMP G ad Y n g (zSt τh 10 h 0)) (z_me G ad Y n g τh h (by decide)) dX5_elect_135 (fun H locs hM hS => ?_)
                  refine lv_iinc (v := nI (h + 1)) (lv' := [(2, .int (nI (h + 1))), (1, .int (zPh g τ)), (0, .ref (ad 0))]) hx hb dX5_elect_136 hl (k := 0) rfl (nI_1 _) (by decide) rfl (fun ls hl => ?_)
                  refine lv_goto (tgt := 79) hx hb dX5_elect_139 (by decide) ?_
                  have e_10 : zIt (zElM (g 3 - zPh g τ)) (h + 1) (zIt (zBgM (zPh g τ)) n τ) = zSt τh 10 h 0 := by
                    rw [zIt_s, hF_τh]
                    first | with_reducible rfl | (simp only [zElM, zBi, c_1, c_4, c_6, c_8, eq_self, ne_eq, not_true_eq_false, not_false_eq_true, and_true, true_and, and_self, and_false, false_and, true_or, or_true, false_or, or_false, reduceIte]; done) | (simp [zElM, zBi, c_1, c_4, c_6, c_8]; done) | rfl | (simp_all [zElM, zBi]; done)
                  refine ih2 (h + 1) _ _ _ (by omega) (by omega) ?_ hS ?_
                  · first | exact hM | (rw [e_10]; exact hM)
                  · first | exact lv_sub hl [0, 1, 2] rfl | (rw [e_10]; exact lv_sub hl [0, 1, 2] rfl)
                · skip
                  refine lv_aload_n hx hb dX5_elect_112 rfl (lv_at hl 2 rfl) ?_
                  refine z_vi (As := []) (rest := [.int (nI h), .ref (ad 6)]) (P2 := zMP G ad Y n g (zDw τh)) (r := zDr (zNx (τh 11 9))) S (c_X5_draw l G A ad Y n g hA hn12  τh ) (cwV 0 hts gX5_elect_X5_draw rfl rfl rfl (by decide +kernel) ⟨Nat.le_of_ble_eq_true rfl, Nat.le_of_ble_eq_true rfl⟩) (z_recM hK hM) hM hK hS (fun _ _ h => h) (fun _ h => h) hl.1 rfl rfl (Nat.le_of_ble_eq_true rfl) dX5_elect_113 ⟨Nat.le_refl _, Nat.le_refl _⟩ (fun H locs hM hS _ => ?_)
                  refine lv_aload_n hx hb dX5_elect_116 rfl (lv_at hl 2 rfl) ?_
                  refine lv_iconst (v := 0) hx hb dX5_elect_117 (by decide) ?_
                  refine z_vi (As := [.int 0]) (rest := [.int (zDr (zNx (τh 11 9))), .int (nI h), .ref (ad 6)]) (P2 := zMP G ad Y n g (zDw τh)) (r := g 3) S (c_X5_setting l G A ad Y n g hA hn12  (zDw τh) 0 (by omega)) (cwV 1 hts gX5_elect_X5_setting rfl rfl rfl (by decide +kernel) ⟨Nat.le_of_ble_eq_true rfl, Nat.le_of_ble_eq_true rfl⟩) (z_recM hK hM) hM hK hS (fun _ _ h => h) (fun _ h => h) hl.1 rfl rfl (Nat.le_of_ble_eq_true rfl) dX5_elect_118 ⟨Nat.le_refl _, Nat.le_refl _⟩ (fun H locs hM hS _ => ?_)
                  refine lv_iload_n hx hb dX5_elect_121 rfl (lv_at hl 1 rfl) ?_
                  refine lv_isub hx hb dX5_elect_122 ?_
                  refine lv_imul hx hb dX5_elect_123 ?_
                  refine lv_sipush (v := 1000) hx hb dX5_elect_124 (by decide) ?_
                  refine lv_icmp_ge (tgt := 134) hx hb dX5_elect_127 (by decide) (fun c_11 => ?_) (fun c_12 => ?_)
                  · skip
                    have c_11 := Int32.not_lt.mpr c_11
                    refine lv_iconst (v := 0) hx hb dX5_elect_134 (by decide) ?_
                    refine z_stMz (w := 0) hx hb hK hA hS hM 6 rfl (by decide) h rfl (by omega) (by decide) (zMP G ad Y n g (zSt (zDw τh) 10 h 0)) (z_me G ad Y n g (zDw τh) h (by decide)) dX5_elect_135 (fun H locs hM hS => ?_)
                    refine lv_iinc (v := nI (h + 1)) (lv' := [(2, .int (nI (h + 1))), (1, .int (zPh g τ)), (0, .ref (ad 0))]) hx hb dX5_elect_136 hl (k := 0) rfl (nI_1 _) (by decide) rfl (fun ls hl => ?_)
                    refine lv_goto (tgt := 79) hx hb dX5_elect_139 (by decide) ?_
                    have e_13 : zIt (zElM (g 3 - zPh g τ)) (h + 1) (zIt (zBgM (zPh g τ)) n τ) = zSt (zDw τh) 10 h 0 := by
                      rw [zIt_s, hF_τh]
                      first | with_reducible rfl | (simp only [zElM, zBi, c_1, c_4, c_6, c_9, c_11, eq_self, ne_eq, not_true_eq_false, not_false_eq_true, and_true, true_and, and_self, and_false, false_and, true_or, or_true, false_or, or_false, reduceIte]; done) | (simp [zElM, zBi, c_1, c_4, c_6, c_9, c_11]; done) | rfl | (simp_all [zElM, zBi]; done)
                    refine ih2 (h + 1) _ _ _ (by omega) (by omega) ?_ hS ?_
                    · first | exact hM | (rw [e_13]; exact hM)
                    · first | exact lv_sub hl [0, 1, 2] rfl | (rw [e_13]; exact lv_sub hl [0, 1, 2] rfl)
                  · skip
                    have c_12 := Int32.not_le.mp c_12
                    refine lv_iconst (v := 1) hx hb dX5_elect_130 (by decide) ?_
                    refine lv_goto (tgt := 135) hx hb dX5_elect_131 (by decide) ?_
                    refine z_stMz (w := 1) hx hb hK hA hS hM 6 rfl (by decide) h rfl (by omega) (by decide) (zMP G ad Y n g (zSt (zDw τh) 10 h 1)) (z_me G ad Y n g (zDw τh) h (by decide)) dX5_elect_135 (fun H locs hM hS => ?_)
                    refine lv_iinc (v := nI (h + 1)) (lv' := [(2, .int (nI (h + 1))), (1, .int (zPh g τ)), (0, .ref (ad 0))]) hx hb dX5_elect_136 hl (k := 0) rfl (nI_1 _) (by decide) rfl (fun ls hl => ?_)
                    refine lv_goto (tgt := 79) hx hb dX5_elect_139 (by decide) ?_
                    have e_14 : zIt (zElM (g 3 - zPh g τ)) (h + 1) (zIt (zBgM (zPh g τ)) n τ) = zSt (zDw τh) 10 h 1 := by
                      rw [zIt_s, hF_τh]
                      first | with_reducible rfl | (simp only [zElM, zBi, c_1, c_4, c_6, c_9, c_12, eq_self, ne_eq, not_true_eq_false, not_false_eq_true, and_true, true_and, and_self, and_false, false_and, true_or, or_true, false_or, or_false, reduceIte]; done) | (simp [zElM, zBi, c_1, c_4, c_6, c_9, c_12]; done) | rfl | (simp_all [zElM, zBi]; done)
                    refine ih2 (h + 1) _ _ _ (by omega) (by omega) ?_ hS ?_
                    · first | exact hM | (rw [e_14]; exact hM)
                    · first | exact lv_sub hl [0, 1, 2] rfl | (rw [e_14]; exact lv_sub hl [0, 1, 2] rfl)
        exact loop2 (n + 1) 0 _ _ _ (by omega) (by omega) hM hS (lv_sub hl [0, 1, 2] rfl)
      · skip
        have c_2 := (not_congr (z_leI (a := n) (b := k) (by omega) (by omega))).mp c_2
        refine lv_aload_n hx hb dX5_elect_26 rfl (lv_at hl 2 rfl) ?_
        refine lv_iload_n hx hb dX5_elect_27 rfl (lv_at hl 0 rfl) ?_
        refine lv_iconst (v := 4) hx hb dX5_elect_28 (by decide) ?_
        refine lv_iload_n hx hb dX5_elect_29 rfl (lv_at hl 1 rfl) ?_
        refine lv_if_ne (tgt := 37) hx hb dX5_elect_30 (by decide) (fun c_15 => ?_) (fun c_16 => ?_)
        · skip
          refine lv_aload_n hx hb dX5_elect_37 rfl (lv_at hl 2 rfl) ?_
          refine lv_iload_n hx hb dX5_elect_38 rfl (lv_at hl 0 rfl) ?_
          refine lv_iconst (v := 4) hx hb dX5_elect_39 (by decide) ?_
          refine z_vi (As := [.int (nI k), .int 4]) (rest := [.int 4, .int (nI k), .ref (ad 0)]) (P2 := zMP G ad Y n g τk) (r := τk 4 k) S (c_X5_of l G A ad Y n g hA hn12  τk k 4 (by omega) (by omega)) (cwV 2 hts gX5_elect_X5_of rfl rfl rfl (by decide +kernel) ⟨Nat.le_of_ble_eq_true rfl, Nat.le_of_ble_eq_true rfl⟩) (z_recM hK hM) hM hK hS (fun _ _ h => h) (fun _ h => h) hl.1 rfl rfl (Nat.le_of_ble_eq_true rfl) dX5_elect_40 ⟨Nat.le_refl _, Nat.le_refl _⟩ (fun H locs hM hS _ => ?_)
          refine z_vv (As := [.int (nI k), .int 4, .int (τk 4 k)]) (rest := []) (P2 := zMP G ad Y n g (zSt τk 4 k (τk 4 k))) S (c_X5_set l G A ad Y n g hA hn12  τk k 4 (by omega) (by omega) (τk 4 k)) (cwV 3 hts gX5_elect_X5_set rfl rfl rfl (by decide +kernel) ⟨Nat.le_of_ble_eq_true rfl, Nat.le_of_ble_eq_true rfl⟩) (z_recM hK hM) hM hK hS (fun _ _ h => h) (fun _ h => h) hl.1 rfl rfl (Nat.le_of_ble_eq_true rfl) dX5_elect_43 ⟨Nat.le_refl _, Nat.le_refl _⟩ (fun H locs hM hS _ => ?_)
          refine lv_aload_n hx hb dX5_elect_46 rfl (lv_at hl 2 rfl) ?_
          refine lv_iload_n hx hb dX5_elect_47 rfl (lv_at hl 0 rfl) ?_
          refine lv_bipush (v := 7) hx hb dX5_elect_48 (by decide) ?_
          refine lv_bipush (v := -9) hx hb dX5_elect_50 (by decide) ?_
          refine z_vv (As := [.int (nI k), .int 7, .int (-9)]) (rest := []) (P2 := zMP G ad Y n g (zSt (zSt τk 4 k (τk 4 k)) 7 k (-9))) S (c_X5_set l G A ad Y n g hA hn12  (zSt τk 4 k (τk 4 k)) k 7 (by omega) (by omega) (-9)) (cwV 3 hts gX5_elect_X5_set rfl rfl rfl (by decide +kernel) ⟨Nat.le_of_ble_eq_true rfl, Nat.le_of_ble_eq_true rfl⟩) (z_recM hK hM) hM hK hS (fun _ _ h => h) (fun _ h => h) hl.1 rfl rfl (Nat.le_of_ble_eq_true rfl) dX5_elect_52 ⟨Nat.le_refl _, Nat.le_refl _⟩ (fun H locs hM hS _ => ?_)
          refine lv_aload_n hx hb dX5_elect_55 rfl (lv_at hl 2 rfl) ?_
          refine lv_iload_n hx hb dX5_elect_56 rfl (lv_at hl 0 rfl) ?_
          refine lv_bipush (v := 8) hx hb dX5_elect_57 (by decide) ?_
          refine lv_bipush (v := -9) hx hb dX5_elect_59 (by decide) ?_
          refine z_vv (As := [.int (nI k), .int 8, .int (-9)]) (rest := []) (P2 := zMP G ad Y n g (zSt (zSt (zSt τk 4 k (τk 4 k)) 7 k (-9)) 8 k (-9))) S (c_X5_set l G A ad Y n g hA hn12  (zSt (zSt τk 4 k (τk 4 k)) 7 k (-9)) k 8 (by omega) (by omega) (-9)) (cwV 3 hts gX5_elect_X5_set rfl rfl rfl (by decide +kernel) ⟨Nat.le_of_ble_eq_true rfl, Nat.le_of_ble_eq_true rfl⟩) (z_recM hK hM) hM hK hS (fun _ _ h => h) (fun _ h => h) hl.1 rfl rfl (Nat.le_of_ble_eq_true rfl) dX5_elect_61 ⟨Nat.le_refl _, Nat.le_refl _⟩ (fun H locs hM hS _ => ?_)
          refine lv_aload_n hx hb dX5_elect_64 rfl (lv_at hl 2 rfl) ?_
          refine z_getM (v := .ref (ad 7)) hx hb hts hown in_X5_elect_X5 hK hM 8 (by decide) rfl (hts _ (List.mem_of_getElem? (i := 2) (by decide +kernel))) rfl dX5_elect_65 ?_
          refine lv_iload_n hx hb dX5_elect_68 rfl (lv_at hl 0 rfl) ?_
          refine lv_iconst (v := 0) hx hb dX5_elect_69 (by decide) ?_
          refine z_stM (w := 0) hx hb hK hA hS hM 7 rfl k rfl (by omega) (by decide) (zMP G ad Y n g (zSt (zSt (zSt (zSt τk 4 k (τk 4 k)) 7 k (-9)) 8 k (-9)) 9 k 0)) (z_mw G ad Y n g (zSt (zSt (zSt τk 4 k (τk 4 k)) 7 k (-9)) 8 k (-9)) k 0) dX5_elect_70 (fun H locs hM hS => ?_)
          refine lv_iinc (v := nI (k + 1)) (lv' := [(2, .int (nI (k + 1))), (1, .int (zPh g τ)), (0, .ref (ad 0))]) hx hb dX5_elect_71 hl (k := 0) rfl (nI_1 _) (by decide) rfl (fun ls hl => ?_)
          refine lv_goto (tgt := 16) hx hb dX5_elect_74 (by decide) ?_
          have e_17 : zIt (zBgM (zPh g τ)) (k + 1) τ = zSt (zSt (zSt (zSt τk 4 k (τk 4 k)) 7 k (-9)) 8 k (-9)) 9 k 0 := by
            rw [zIt_s, hF_τk]
            first | with_reducible rfl | (simp only [zBgM, c_2, c_15, eq_self, ne_eq, not_true_eq_false, not_false_eq_true, and_true, true_and, and_self, and_false, false_and, true_or, or_true, false_or, or_false, reduceIte]; done) | (simp [zBgM, c_2, c_15]; done) | rfl | (simp_all [zBgM]; done)
          refine ih1 (k + 1) _ _ _ (by omega) (by omega) ?_ hS ?_
          · first | exact hM | (rw [e_17]; exact hM)
          · first | exact lv_sub hl [0, 1, 2] rfl | (rw [e_17]; exact lv_sub hl [0, 1, 2] rfl)
        · skip
          refine lv_iconst (v := 1) hx hb dX5_elect_33 (by decide) ?_
          refine lv_goto (tgt := 43) hx hb dX5_elect_34 (by decide) ?_
          refine z_vv (As := [.int (nI k), .int 4, .int 1]) (rest := []) (P2 := zMP G ad Y n g (zSt τk 4 k 1)) S (c_X5_set l G A ad Y n g hA hn12  τk k 4 (by omega) (by omega) 1) (cwV 3 hts gX5_elect_X5_set rfl rfl rfl (by decide +kernel) ⟨Nat.le_of_ble_eq_true rfl, Nat.le_of_ble_eq_true rfl⟩) (z_recM hK hM) hM hK hS (fun _ _ h => h) (fun _ h => h) hl.1 rfl rfl (Nat.le_of_ble_eq_true rfl) dX5_elect_43 ⟨Nat.le_refl _, Nat.le_refl _⟩ (fun H locs hM hS _ => ?_)
          refine lv_aload_n hx hb dX5_elect_46 rfl (lv_at hl 2 rfl) ?_
          refine lv_iload_n hx hb dX5_elect_47 rfl (lv_at hl 0 rfl) ?_
          refine lv_bipush (v := 7) hx hb dX5_elect_48 (by decide) ?_
          refine lv_bipush (v := -9) hx hb dX5_elect_50 (by decide) ?_
          refine z_vv (As := [.int (nI k), .int 7, .int (-9)]) (rest := []) (P2 := zMP G ad Y n g (zSt (zSt τk 4 k 1) 7 k (-9))) S (c_X5_set l G A ad Y n g hA hn12  (zSt τk 4 k 1) k 7 (by omega) (by omega) (-9)) (cwV 3 hts gX5_elect_X5_set rfl rfl rfl (by decide +kernel) ⟨Nat.le_of_ble_eq_true rfl, Nat.le_of_ble_eq_true rfl⟩) (z_recM hK hM) hM hK hS (fun _ _ h => h) (fun _ h => h) hl.1 rfl rfl (Nat.le_of_ble_eq_true rfl) dX5_elect_52 ⟨Nat.le_refl _, Nat.le_refl _⟩ (fun H locs hM hS _ => ?_)
          refine lv_aload_n hx hb dX5_elect_55 rfl (lv_at hl 2 rfl) ?_
          refine lv_iload_n hx hb dX5_elect_56 rfl (lv_at hl 0 rfl) ?_
          refine lv_bipush (v := 8) hx hb dX5_elect_57 (by decide) ?_
          refine lv_bipush (v := -9) hx hb dX5_elect_59 (by decide) ?_
          refine z_vv (As := [.int (nI k), .int 8, .int (-9)]) (rest := []) (P2 := zMP G ad Y n g (zSt (zSt (zSt τk 4 k 1) 7 k (-9)) 8 k (-9))) S (c_X5_set l G A ad Y n g hA hn12  (zSt (zSt τk 4 k 1) 7 k (-9)) k 8 (by omega) (by omega) (-9)) (cwV 3 hts gX5_elect_X5_set rfl rfl rfl (by decide +kernel) ⟨Nat.le_of_ble_eq_true rfl, Nat.le_of_ble_eq_true rfl⟩) (z_recM hK hM) hM hK hS (fun _ _ h => h) (fun _ h => h) hl.1 rfl rfl (Nat.le_of_ble_eq_true rfl) dX5_elect_61 ⟨Nat.le_refl _, Nat.le_refl _⟩ (fun H locs hM hS _ => ?_)
          refine lv_aload_n hx hb dX5_elect_64 rfl (lv_at hl 2 rfl) ?_
          refine z_getM (v := .ref (ad 7)) hx hb hts hown in_X5_elect_X5 hK hM 8 (by decide) rfl (hts _ (List.mem_of_getElem? (i := 2) (by decide +kernel))) rfl dX5_elect_65 ?_
          refine lv_iload_n hx hb dX5_elect_68 rfl (lv_at hl 0 rfl) ?_
          refine lv_iconst (v := 0) hx hb dX5_elect_69 (by decide) ?_
          refine z_stM (w := 0) hx hb hK hA hS hM 7 rfl k rfl (by omega) (by decide) (zMP G ad Y n g (zSt (zSt (zSt (zSt τk 4 k 1) 7 k (-9)) 8 k (-9)) 9 k 0)) (z_mw G ad Y n g (zSt (zSt (zSt τk 4 k 1) 7 k (-9)) 8 k (-9)) k 0) dX5_elect_70 (fun H locs hM hS => ?_)
          refine lv_iinc (v := nI (k + 1)) (lv' := [(2, .int (nI (k + 1))), (1, .int (zPh g τ)), (0, .ref (ad 0))]) hx hb dX5_elect_71 hl (k := 0) rfl (nI_1 _) (by decide) rfl (fun ls hl => ?_)
          refine lv_goto (tgt := 16) hx hb dX5_elect_74 (by decide) ?_
          have e_18 : zIt (zBgM (zPh g τ)) (k + 1) τ = zSt (zSt (zSt (zSt τk 4 k 1) 7 k (-9)) 8 k (-9)) 9 k 0 := by
            rw [zIt_s, hF_τk]
            first | with_reducible rfl | (simp only [zBgM, c_2, c_16, eq_self, ne_eq, not_true_eq_false, not_false_eq_true, and_true, true_and, and_self, and_false, false_and, true_or, or_true, false_or, or_false, reduceIte]; done) | (simp [zBgM, c_2, c_16]; done) | rfl | (simp_all [zBgM]; done)
          refine ih1 (k + 1) _ _ _ (by omega) (by omega) ?_ hS ?_
          · first | exact hM | (rw [e_18]; exact hM)
          · first | exact lv_sub hl [0, 1, 2] rfl | (rw [e_18]; exact lv_sub hl [0, 1, 2] rfl)
  exact loop1 (n + 1) 0 _ _ _ (by omega) (by omega) hM hS (lv_sub hl [0, 1, 2] rfl)

theorem in_X5_announce_X5 : ∀ w ∈ wsX50, w ∈ wsX5_announce := by decide +kernel
set_option maxHeartbeats 4000000 in
set_option maxRecDepth 100000 in
theorem c_X5_announce (l : Launch) (G : zG) (A : Nat → Prop) (ad : Nat → Nat) (Y : zY) (n : Nat) (g : Nat → Int32) (hA : zAm G ad A) (hn12 : n ≤ 12) (τ : zT) : zMv l G A yX5_announce wsX5_announce 2 45 [.ref (ad 0)] (zMP G ad Y n g τ) (zMP G ad Y n g (zAm2 n g τ)) := by
  refine z_met (cc := cX5_announce) (maxL := 2) (ret := none) (by decide) rfl (Nat.le_of_ble_eq_true rfl) ?_
  intro p e s m below meth c ls S hr hlk hnm hM hK hl
  have S : CallFix p m c cX5_announce 2 s _ wsX5_announce RX5 := S
  obtain ⟨hx, hb, hml, hown, hts⟩ := id S
  have hS : va_S A s.heap s.heap [] := va_S.rf
  have hl : lv_has ls 2 [(0, .ref (ad 0))] := hl
  refine lv_aload_n hx hb dX5_announce_0 rfl (lv_at hl 0 rfl) ?_
  refine z_getM (v := .ref (ad 1)) hx hb hts hown in_X5_announce_X5 hK hM 1 (by decide) rfl (hts _ (List.mem_of_getElem? (i := 1) (by decide +kernel))) rfl dX5_announce_1 ?_
  refine lv_bipush (v := 11) hx hb dX5_announce_4 (by decide) ?_
  refine lv_iconst (v := 0) hx hb dX5_announce_6 (by decide) ?_
  refine z_stM (w := 0) hx hb hK hA hS hM 1 rfl 11 (by decide) (by decide) (by decide) (zMP G ad Y n g (zSt τ 11 11 0)) (z_mg G ad Y n g τ (by decide) (by decide) 0) dX5_announce_7 (fun H locs hM hS => ?_)
  refine lv_iconst (v := 0) hx hb dX5_announce_8 (by decide) ?_
  refine lv_istore_n (lv' := [(1, .int 0), (0, .ref (ad 0))]) hx hb dX5_announce_9 rfl hl (by decide) rfl (fun ls hl => ?_)
  have loop1 : ∀ (f1 k : Nat) (H : Heap) (locs : List Loc) (ls : Array Slot), k ≤ n → n < k + f1 → zMP G ad Y n g (zIt (zAnS g) k (zSt τ 11 11 0)) H → va_S A s.heap H locs → lv_has ls 2 [(1, .int (nI k)), (0, .ref (ad 0))] → W p l e ({ frames := 2, cells := 0, slots := 0, locals := 45 } : Room) s m ([.ref (ad 0)] : List Value).toArray below meth c H locs 0 0 (MQ below (zQv G (zMP G ad Y n g (zAm2 n g τ)) A) ([.ref (ad 0)] : List Value).toArray s 0 0 A) (F0 m 10 ls []) := by
    intro f1
    induction f1 with
    | zero => intro k H locs ls h1 h2; exact absurd h2 (by omega)
    | succ f1 ih1 =>
      intro k H locs ls hk1 hf1 hM hS hl
      generalize hF_τk : zIt (zAnS g) k (zSt τ 11 11 0) = τk at hM hl 
      refine lv_iload_n hx hb dX5_announce_10 rfl (lv_at hl 0 rfl) ?_
      refine lv_aload_n hx hb dX5_announce_11 rfl (lv_at hl 1 rfl) ?_
      refine z_getM (v := .ref (ad 1)) hx hb hts hown in_X5_announce_X5 hK hM 1 (by decide) rfl (hts _ (List.mem_of_getElem? (i := 1) (by decide +kernel))) rfl dX5_announce_12 ?_
      refine lv_iconst (v := 0) hx hb dX5_announce_15 (by decide) ?_
      refine z_ldM (w := nI n) hx hb hK hM 1 rfl 0 (by decide) (by decide) (by decide) rfl dX5_announce_16 ?_
      refine lv_icmp_ge (tgt := 88) hx hb dX5_announce_17 (by decide) (fun c_1 => ?_) (fun c_2 => ?_)
      · skip
        have c_1 := (z_leI (a := n) (b := k) (by omega) (by omega)).mp c_1
        have hkn1 : k = n := by omega
        rw [hkn1] at hF_τk
        subst hF_τk
        exact z_vret hx hb hr hlk hK hS (hM.cast rfl rfl rfl (by first | with_reducible rfl | (simp only [zAm2, c_1, eq_self, ne_eq, not_true_eq_false, not_false_eq_true, and_true, true_and, and_self, and_false, false_and, true_or, or_true, false_or, or_false, reduceIte]; done) | (simp [zAm2, c_1]; done) | rfl | (simp_all [zAm2]; done))) dX5_announce_88
      · skip
        have c_2 := (not_congr (z_leI (a := n) (b := k) (by omega) (by omega))).mp c_2
        refine lv_aload_n hx hb dX5_announce_20 rfl (lv_at hl 1 rfl) ?_
        refine z_getM (v := .ref (ad 6)) hx hb hts hown in_X5_announce_X5 hK hM 7 (by decide) rfl (hts _ (List.mem_of_getElem? (i := 2) (by decide +kernel))) rfl dX5_announce_21 ?_
        refine lv_iload_n hx hb dX5_announce_24 rfl (lv_at hl 0 rfl) ?_
        refine z_ldMz (w := zBi (τk 10 k = 1)) hx hb hK hM 6 rfl k rfl (by omega) (by decide) rfl dX5_announce_25 ?_
        refine lv_if_eq (tgt := 82) hx hb dX5_announce_26 (by decide) (fun c_3 => ?_) (fun c_4 => ?_)
        · skip
          have c_3 := zBi_0.mp c_3
          refine lv_iinc (v := nI (k + 1)) (lv' := [(1, .int (nI (k + 1))), (0, .ref (ad 0))]) hx hb dX5_announce_82 hl (k := 0) rfl (nI_1 _) (by decide) rfl (fun ls hl => ?_)
          refine lv_goto (tgt := 10) hx hb dX5_announce_85 (by decide) ?_
          have e_5 : zIt (zAnS g) (k + 1) (zSt τ 11 11 0) = τk := by
            rw [zIt_s, hF_τk]
            first | with_reducible rfl | (simp only [zAnS, zAnY, zPay, zPd, zSt_ap, c_2, c_3, eq_self, ne_eq, not_true_eq_false, not_false_eq_true, and_true, true_and, and_self, and_false, false_and, true_or, or_true, false_or, or_false, reduceIte]; done) | (simp [zAnS, zAnY, zPay, zPd, zSt_ap, c_2, c_3]; done) | rfl | (simp_all [zAnS, zAnY, zPay, zPd, zSt_ap]; done)
          refine ih1 (k + 1) _ _ _ (by omega) (by omega) ?_ hS ?_
          · first | exact hM | (rw [e_5]; exact hM)
          · first | exact lv_sub hl [0, 1] rfl | (rw [e_5]; exact lv_sub hl [0, 1] rfl)
        · skip
          have c_4 := zBi_n0.mp c_4
          refine lv_aload_n hx hb dX5_announce_29 rfl (lv_at hl 1 rfl) ?_
          refine lv_iload_n hx hb dX5_announce_30 rfl (lv_at hl 0 rfl) ?_
          refine lv_aload_n hx hb dX5_announce_31 rfl (lv_at hl 1 rfl) ?_
          refine lv_iconst (v := 4) hx hb dX5_announce_32 (by decide) ?_
          refine z_vi (As := [.int 4]) (rest := [.int (nI k), .ref (ad 0)]) (P2 := zMP G ad Y n g τk) (r := g 7) S (c_X5_setting l G A ad Y n g hA hn12  τk 4 (by omega)) (cwV 1 hts gX5_announce_X5_setting rfl rfl rfl (by decide +kernel) ⟨Nat.le_of_ble_eq_true rfl, Nat.le_of_ble_eq_true rfl⟩) (z_recM hK hM) hM hK hS (fun _ _ h => h) (fun _ h => h) hl.1 rfl rfl (Nat.le_of_ble_eq_true rfl) dX5_announce_33 ⟨Nat.le_refl _, Nat.le_refl _⟩ (fun H locs hM hS _ => ?_)
          refine z_vi (As := [.int (nI k), .int (g 7)]) (rest := []) (P2 := zMP G ad Y n g (zPay τk k (g 7))) (r := zBi (¬ τk 2 k < (g 7))) S (c_X5_pays l G A ad Y n g hA hn12  τk k (by omega) (g 7)) (cwV 2 hts gX5_announce_X5_pays rfl rfl rfl (by decide +kernel) ⟨Nat.le_of_ble_eq_true rfl, Nat.le_of_ble_eq_true rfl⟩) (z_recM hK hM) hM hK hS (fun _ _ h => h) (fun _ h => h) hl.1 rfl rfl (Nat.le_of_ble_eq_true rfl) dX5_announce_36 ⟨Nat.le_refl _, Nat.le_refl _⟩ (fun H locs hM hS _ => ?_)
          refine lv_if_eq (tgt := 82) hx hb dX5_announce_39 (by decide) (fun c_6 => ?_) (fun c_7 => ?_)
          · skip
            have c_6 := zBi_0.mp c_6
            have c_6 := Decidable.of_not_not c_6
            have hM := hM.cast rfl rfl rfl (zPay_n c_6)
            refine lv_iinc (v := nI (k + 1)) (lv' := [(1, .int (nI (k + 1))), (0, .ref (ad 0))]) hx hb dX5_announce_82 hl (k := 0) rfl (nI_1 _) (by decide) rfl (fun ls hl => ?_)
            refine lv_goto (tgt := 10) hx hb dX5_announce_85 (by decide) ?_
            have e_8 : zIt (zAnS g) (k + 1) (zSt τ 11 11 0) = zDie τk k := by
              rw [zIt_s, hF_τk]
              first | with_reducible rfl | (simp only [zAnS, zAnY, zPay, zPd, zSt_ap, c_2, c_4, c_6, eq_self, ne_eq, not_true_eq_false, not_false_eq_true, and_true, true_and, and_self, and_false, false_and, true_or, or_true, false_or, or_false, reduceIte]; done) | (simp [zAnS, zAnY, zPay, zPd, zSt_ap, c_2, c_4, c_6]; done) | rfl | (simp_all [zAnS, zAnY, zPay, zPd, zSt_ap]; done)
            refine ih1 (k + 1) _ _ _ (by omega) (by omega) ?_ hS ?_
            · first | exact hM | (rw [e_8]; exact hM)
            · first | exact lv_sub hl [0, 1] rfl | (rw [e_8]; exact lv_sub hl [0, 1] rfl)
          · skip
            have c_7 := zBi_n0.mp c_7
            have hM := hM.cast rfl rfl rfl (zPay_y c_7)
            refine lv_aload_n hx hb dX5_announce_42 rfl (lv_at hl 1 rfl) ?_
            refine lv_iload_n hx hb dX5_announce_43 rfl (lv_at hl 0 rfl) ?_
            refine lv_bipush (v := 7) hx hb dX5_announce_44 (by decide) ?_
            refine lv_iload_n hx hb dX5_announce_46 rfl (lv_at hl 0 rfl) ?_
            refine z_vv (As := [.int (nI k), .int 7, .int (nI k)]) (rest := []) (P2 := zMP G ad Y n g (zSt (zPd τk k (g 7)) 7 k (nI k))) S (c_X5_set l G A ad Y n g hA hn12  (zPd τk k (g 7)) k 7 (by omega) (by omega) (nI k)) (cwV 3 hts gX5_announce_X5_set rfl rfl rfl (by decide +kernel) ⟨Nat.le_of_ble_eq_true rfl, Nat.le_of_ble_eq_true rfl⟩) (z_recM hK hM) hM hK hS (fun _ _ h => h) (fun _ h => h) hl.1 rfl rfl (Nat.le_of_ble_eq_true rfl) dX5_announce_47 ⟨Nat.le_refl _, Nat.le_refl _⟩ (fun H locs hM hS _ => ?_)
            refine lv_aload_n hx hb dX5_announce_50 rfl (lv_at hl 1 rfl) ?_
            refine lv_iload_n hx hb dX5_announce_51 rfl (lv_at hl 0 rfl) ?_
            refine lv_iconst (v := 4) hx hb dX5_announce_52 (by decide) ?_
            refine lv_iconst (v := 0) hx hb dX5_announce_53 (by decide) ?_
            refine z_vv (As := [.int (nI k), .int 4, .int 0]) (rest := []) (P2 := zMP G ad Y n g (zSt (zSt (zPd τk k (g 7)) 7 k (nI k)) 4 k 0)) S (c_X5_set l G A ad Y n g hA hn12  (zSt (zPd τk k (g 7)) 7 k (nI k)) k 4 (by omega) (by omega) 0) (cwV 3 hts gX5_announce_X5_set rfl rfl rfl (by decide +kernel) ⟨Nat.le_of_ble_eq_true rfl, Nat.le_of_ble_eq_true rfl⟩) (z_recM hK hM) hM hK hS (fun _ _ h => h) (fun _ h => h) hl.1 rfl rfl (Nat.le_of_ble_eq_true rfl) dX5_announce_54 ⟨Nat.le_refl _, Nat.le_refl _⟩ (fun H locs hM hS _ => ?_)
            refine lv_aload_n hx hb dX5_announce_57 rfl (lv_at hl 1 rfl) ?_
            refine lv_iload_n hx hb dX5_announce_58 rfl (lv_at hl 0 rfl) ?_
            refine lv_iconst (v := 5) hx hb dX5_announce_59 (by decide) ?_
            refine lv_aload_n hx hb dX5_announce_60 rfl (lv_at hl 1 rfl) ?_
            refine lv_iload_n hx hb dX5_announce_61 rfl (lv_at hl 0 rfl) ?_
            refine lv_iconst (v := 5) hx hb dX5_announce_62 (by decide) ?_
            refine z_vi (As := [.int (nI k), .int 5]) (rest := [.int 5, .int (nI k), .ref (ad 0)]) (P2 := zMP G ad Y n g (zSt (zSt (zPd τk k (g 7)) 7 k (nI k)) 4 k 0)) (r := (zSt (zSt (zPd τk k (g 7)) 7 k (nI k)) 4 k 0) 5 k) S (c_X5_of l G A ad Y n g hA hn12  (zSt (zSt (zPd τk k (g 7)) 7 k (nI k)) 4 k 0) k 5 (by omega) (by omega)) (cwV 2 hts gX5_announce_X5_of rfl rfl rfl (by decide +kernel) ⟨Nat.le_of_ble_eq_true rfl, Nat.le_of_ble_eq_true rfl⟩) (z_recM hK hM) hM hK hS (fun _ _ h => h) (fun _ h => h) hl.1 rfl rfl (Nat.le_of_ble_eq_true rfl) dX5_announce_63 ⟨Nat.le_refl _, Nat.le_refl _⟩ (fun H locs hM hS _ => ?_)
            refine z_top (x2 := (zPd τk k (g 7)) 5 k) rfl ?_
            refine lv_iconst (v := 1) hx hb dX5_announce_66 (by decide) ?_
            refine lv_iadd hx hb dX5_announce_67 ?_
            refine z_vv (As := [.int (nI k), .int 5, .int (((zPd τk k (g 7)) 5 k) + 1)]) (rest := []) (P2 := zMP G ad Y n g (zSt (zSt (zSt (zPd τk k (g 7)) 7 k (nI k)) 4 k 0) 5 k (((zPd τk k (g 7)) 5 k) + 1))) S (c_X5_set l G A ad Y n g hA hn12  (zSt (zSt (zPd τk k (g 7)) 7 k (nI k)) 4 k 0) k 5 (by omega) (by omega) (((zPd τk k (g 7)) 5 k) + 1)) (cwV 3 hts gX5_announce_X5_set rfl rfl rfl (by decide +kernel) ⟨Nat.le_of_ble_eq_true rfl, Nat.le_of_ble_eq_true rfl⟩) (z_recM hK hM) hM hK hS (fun _ _ h => h) (fun _ h => h) hl.1 rfl rfl (Nat.le_of_ble_eq_true rfl) dX5_announce_68 ⟨Nat.le_refl _, Nat.le_refl _⟩ (fun H locs hM hS _ => ?_)
            refine lv_aload_n hx hb dX5_announce_71 rfl (lv_at hl 1 rfl) ?_
            refine z_getM (v := .ref (ad 1)) hx hb hts hown in_X5_announce_X5 hK hM 1 (by decide) rfl (hts _ (List.mem_of_getElem? (i := 1) (by decide +kernel))) rfl dX5_announce_72 ?_
            refine lv_bipush (v := 11) hx hb dX5_announce_75 (by decide) ?_
            refine lv_dup2_11 hx hb dX5_announce_77 rfl rfl ?_
            refine z_ldM (w := (zPd τk k (g 7)) 11 11) hx hb hK hM 1 rfl 11 (by decide) (by decide) (by decide) rfl dX5_announce_78 ?_
            refine lv_iconst (v := 1) hx hb dX5_announce_79 (by decide) ?_
            refine lv_iadd hx hb dX5_announce_80 ?_
            refine z_stM (w := ((zPd τk k (g 7)) 11 11) + 1) hx hb hK hA hS hM 1 rfl 11 (by decide) (by decide) (by decide) (zMP G ad Y n g (zSt (zSt (zSt (zSt (zPd τk k (g 7)) 7 k (nI k)) 4 k 0) 5 k (((zPd τk k (g 7)) 5 k) + 1)) 11 11 (((zPd τk k (g 7)) 11 11) + 1))) (z_mg G ad Y n g (zSt (zSt (zSt (zPd τk k (g 7)) 7 k (nI k)) 4 k 0) 5 k (((zPd τk k (g 7)) 5 k) + 1)) (by decide) (by decide) (((zPd τk k (g 7)) 11 11) + 1)) dX5_announce_81 (fun H locs hM hS => ?_)
            refine lv_iinc (v := nI (k + 1)) (lv' := [(1, .int (nI (k + 1))), (0, .ref (ad 0))]) hx hb dX5_announce_82 hl (k := 0) rfl (nI_1 _) (by decide) rfl (fun ls hl => ?_)
            refine lv_goto (tgt := 10) hx hb dX5_announce_85 (by decide) ?_
            have e_9 : zIt (zAnS g) (k + 1) (zSt τ 11 11 0) = zSt (zSt (zSt (zSt (zPd τk k (g 7)) 7 k (nI k)) 4 k 0) 5 k (((zPd τk k (g 7)) 5 k) + 1)) 11 11 (((zPd τk k (g 7)) 11 11) + 1) := by
              rw [zIt_s, hF_τk]
              first | with_reducible rfl | (simp only [zAnS, zAnY, zPay, zPd, zSt_ap, c_2, c_4, c_7, eq_self, ne_eq, not_true_eq_false, not_false_eq_true, and_true, true_and, and_self, and_false, false_and, true_or, or_true, false_or, or_false, reduceIte]; done) | (simp [zAnS, zAnY, zPay, zPd, zSt_ap, c_2, c_4, c_7]; done) | rfl | (simp_all [zAnS, zAnY, zPay, zPd, zSt_ap]; done)
            refine ih1 (k + 1) _ _ _ (by omega) (by omega) ?_ hS ?_
            · first | exact hM | (rw [e_9]; exact hM)
            · first | exact lv_sub hl [0, 1] rfl | (rw [e_9]; exact lv_sub hl [0, 1] rfl)
  exact loop1 (n + 1) 0 _ _ _ (by omega) (by omega) hM hS (lv_sub hl [0, 1] rfl)
