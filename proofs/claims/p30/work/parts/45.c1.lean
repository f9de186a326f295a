/-! rows laid by my own program (wip/whole/gen) -/
theorem in_X3_copyFrom_X3 : ∀ w ∈ wsX30, w ∈ wsX3_copyFrom := by decide +kernel
set_option maxHeartbeats 4000000 in
set_option maxRecDepth 100000 in
theorem c_X3_copyFrom (l : Launch) (G : zG) (A : Nat → Prop) (ad bd : Nat → Nat) (n n2 N : Nat) (g g2 : Nat → Int32) (τb : zT) (hA : zAp G ad (zNet G bd n2 g2 τb) A) (hN12 : N ≤ 12) (τ : zT) (i : Nat) (hi : i < 12) : zMv l G A yX3_copyFrom wsX3_copyFrom 0 0 [.ref (ad (3 + i)), .ref (bd (3 + i))] (zNA G ad n N g (zNet G bd n2 g2 τb) τ) (zNA G ad n N g (zNet G bd n2 g2 τb) (zCpS τb i τ)) := by
  refine z_met (cc := cX3_copyFrom) (maxL := 2) (ret := none) (by decide) rfl (Nat.le_of_ble_eq_true rfl) ?_
  intro p e s m below meth c ls S hr hlk hnm hN hK hl
  have S : CallFix p m c cX3_copyFrom 2 s _ wsX3_copyFrom RX3 := S
  obtain ⟨hx, hb, hml, hown, hts⟩ := id S
  have hNb := hN.other
  have hS : va_S A s.heap s.heap [] := va_S.rf
  have hl : lv_has ls 2 [(0, .ref (ad (3 + i))), (1, .ref (bd (3 + i)))] := hl
  refine lv_aload_n hx hb dX3_copyFrom_0 rfl (lv_at hl 0 rfl) ?_
  refine lv_aload_n hx hb dX3_copyFrom_1 rfl (lv_at hl 1 rfl) ?_
  refine z_getS (v := .int (τb 0 i)) hx hb hts hown in_X3_copyFrom_X3 hK (Nat.le_refl 12) hNb (by omega) 0 (by decide) rfl (hts _ (List.mem_of_getElem? (i := 1) (by decide +kernel))) rfl dX3_copyFrom_2 ?_
  refine z_putS (v := .int (τb 0 i)) (w := τb 0 i) (ty := .int) hx hb hts hown in_X3_copyFrom_X3 hK hA hS hN (by omega) 0 0 (by decide) rfl (by decide) (hts _ (List.mem_of_getElem? (i := 1) (by decide +kernel))) (by decide +kernel) rfl rfl rfl (fun τ => zSet0 τ _ _) dX3_copyFrom_5 (fun H locs hN hS => ?_)
  have hNb := hN.other
  refine lv_aload_n hx hb dX3_copyFrom_8 rfl (lv_at hl 0 rfl) ?_
  refine lv_aload_n hx hb dX3_copyFrom_9 rfl (lv_at hl 1 rfl) ?_
  refine z_getS (v := .int (τb 1 i)) hx hb hts hown in_X3_copyFrom_X3 hK (Nat.le_refl 12) hNb (by omega) 1 (by decide) rfl (hts _ (List.mem_of_getElem? (i := 2) (by decide +kernel))) rfl dX3_copyFrom_10 ?_
  refine z_putS (v := .int (τb 1 i)) (w := τb 1 i) (ty := .int) hx hb hts hown in_X3_copyFrom_X3 hK hA hS hN (by omega) 1 1 (by decide) rfl (by decide) (hts _ (List.mem_of_getElem? (i := 2) (by decide +kernel))) (by decide +kernel) rfl rfl rfl (fun τ => zSet1 τ _ _) dX3_copyFrom_13 (fun H locs hN hS => ?_)
  have hNb := hN.other
  refine lv_aload_n hx hb dX3_copyFrom_16 rfl (lv_at hl 0 rfl) ?_
  refine lv_aload_n hx hb dX3_copyFrom_17 rfl (lv_at hl 1 rfl) ?_
  refine z_getS (v := .int (τb 2 i)) hx hb hts hown in_X3_copyFrom_X3 hK (Nat.le_refl 12) hNb (by omega) 2 (by decide) rfl (hts _ (List.mem_of_getElem? (i := 3) (by decide +kernel))) rfl dX3_copyFrom_18 ?_
  refine z_putS (v := .int (τb 2 i)) (w := τb 2 i) (ty := .int) hx hb hts hown in_X3_copyFrom_X3 hK hA hS hN (by omega) 2 2 (by decide) rfl (by decide) (hts _ (List.mem_of_getElem? (i := 3) (by decide +kernel))) (by decide +kernel) rfl rfl rfl (fun τ => zSet2 τ _ _) dX3_copyFrom_21 (fun H locs hN hS => ?_)
  have hNb := hN.other
  refine lv_aload_n hx hb dX3_copyFrom_24 rfl (lv_at hl 0 rfl) ?_
  refine lv_aload_n hx hb dX3_copyFrom_25 rfl (lv_at hl 1 rfl) ?_
  refine z_getS (v := .int (zBi (τb 3 i = 1))) hx hb hts hown in_X3_copyFrom_X3 hK (Nat.le_refl 12) hNb (by omega) 3 (by decide) rfl (hts _ (List.mem_of_getElem? (i := 4) (by decide +kernel))) rfl dX3_copyFrom_26 ?_
  refine z_putS (v := .int (zBi (τb 3 i = 1))) (w := τb 3 i) (ty := .boolean) hx hb hts hown in_X3_copyFrom_X3 hK hA hS hN (by omega) 3 3 (by decide) rfl (by decide) (hts _ (List.mem_of_getElem? (i := 4) (by decide +kernel))) (by decide +kernel) zBi_nar zBi_fit rfl (fun τ => zSet3 τ _ rfl) dX3_copyFrom_29 (fun H locs hN hS => ?_)
  have hNb := hN.other
  refine lv_aload_n hx hb dX3_copyFrom_32 rfl (lv_at hl 0 rfl) ?_
  refine lv_aload_n hx hb dX3_copyFrom_33 rfl (lv_at hl 1 rfl) ?_
  refine z_getS (v := .int (zBi (τb 4 i = 1))) hx hb hts hown in_X3_copyFrom_X3 hK (Nat.le_refl 12) hNb (by omega) 4 (by decide) rfl (hts _ (List.mem_of_getElem? (i := 5) (by decide +kernel))) rfl dX3_copyFrom_34 ?_
  refine z_putS (v := .int (zBi (τb 4 i = 1))) (w := τb 4 i) (ty := .boolean) hx hb hts hown in_X3_copyFrom_X3 hK hA hS hN (by omega) 4 4 (by decide) rfl (by decide) (hts _ (List.mem_of_getElem? (i := 5) (by decide +kernel))) (by decide +kernel) zBi_nar zBi_fit rfl (fun τ => zSet4 τ _ rfl) dX3_copyFrom_37 (fun H locs hN hS => ?_)
  have hNb := hN.other
  refine lv_aload_n hx hb dX3_copyFrom_40 rfl (lv_at hl 0 rfl) ?_
  refine lv_aload_n hx hb dX3_copyFrom_41 rfl (lv_at hl 1 rfl) ?_
  refine z_getS (v := .int (τb 5 i)) hx hb hts hown in_X3_copyFrom_X3 hK (Nat.le_refl 12) hNb (by omega) 5 (by decide) rfl (hts _ (List.mem_of_getElem? (i := 6) (by decide +kernel))) rfl dX3_copyFrom_42 ?_
  refine z_putS (v := .int (τb 5 i)) (w := τb 5 i) (ty := .int) hx hb hts hown in_X3_copyFrom_X3 hK hA hS hN (by omega) 5 5 (by decide) rfl (by decide) (hts _ (List.mem_of_getElem? (i := 6) (by decide +kernel))) (by decide +kernel) rfl rfl rfl (fun τ => zSet5 τ _ _) dX3_copyFrom_45 (fun H locs hN hS => ?_)
  have hNb := hN.other
  refine lv_aload_n hx hb dX3_copyFrom_48 rfl (lv_at hl 0 rfl) ?_
  refine lv_aload_n hx hb dX3_copyFrom_49 rfl (lv_at hl 1 rfl) ?_
  refine z_getS (v := .int (τb 6 i)) hx hb hts hown in_X3_copyFrom_X3 hK (Nat.le_refl 12) hNb (by omega) 6 (by decide) rfl (hts _ (List.mem_of_getElem? (i := 7) (by decide +kernel))) rfl dX3_copyFrom_50 ?_
  refine z_putS (v := .int (τb 6 i)) (w := τb 6 i) (ty := .int) hx hb hts hown in_X3_copyFrom_X3 hK hA hS hN (by omega) 6 6 (by decide) rfl (by decide) (hts _ (List.mem_of_getElem? (i := 7) (by decide +kernel))) (by decide +kernel) rfl rfl rfl (fun τ => zSet6 τ _ _) dX3_copyFrom_53 (fun H locs hN hS => ?_)
  have hNb := hN.other
  refine lv_aload_n hx hb dX3_copyFrom_56 rfl (lv_at hl 0 rfl) ?_
  refine lv_aload_n hx hb dX3_copyFrom_57 rfl (lv_at hl 1 rfl) ?_
  refine z_getS (v := .int (τb 7 i)) hx hb hts hown in_X3_copyFrom_X3 hK (Nat.le_refl 12) hNb (by omega) 7 (by decide) rfl (hts _ (List.mem_of_getElem? (i := 8) (by decide +kernel))) rfl dX3_copyFrom_58 ?_
  refine z_putS (v := .int (τb 7 i)) (w := τb 7 i) (ty := .int) hx hb hts hown in_X3_copyFrom_X3 hK hA hS hN (by omega) 7 7 (by decide) rfl (by decide) (hts _ (List.mem_of_getElem? (i := 8) (by decide +kernel))) (by decide +kernel) rfl rfl rfl (fun τ => zSet7 τ _ _) dX3_copyFrom_61 (fun H locs hN hS => ?_)
  have hNb := hN.other
  refine lv_aload_n hx hb dX3_copyFrom_64 rfl (lv_at hl 0 rfl) ?_
  refine lv_aload_n hx hb dX3_copyFrom_65 rfl (lv_at hl 1 rfl) ?_
  refine z_getS (v := .int (τb 8 i)) hx hb hts hown in_X3_copyFrom_X3 hK (Nat.le_refl 12) hNb (by omega) 8 (by decide) rfl (hts _ (List.mem_of_getElem? (i := 9) (by decide +kernel))) rfl dX3_copyFrom_66 ?_
  refine z_putS (v := .int (τb 8 i)) (w := τb 8 i) (ty := .int) hx hb hts hown in_X3_copyFrom_X3 hK hA hS hN (by omega) 8 8 (by decide) rfl (by decide) (hts _ (List.mem_of_getElem? (i := 9) (by decide +kernel))) (by decide +kernel) rfl rfl rfl (fun τ => zSet8 τ _ _) dX3_copyFrom_69 (fun H locs hN hS => ?_)
  have hNb := hN.other
  exact z_vret hx hb hr hlk hK hS (hN.cast (by first | with_reducible rfl | (simp only [zCpS, eq_self, ne_eq, not_true_eq_false, not_false_eq_true, and_true, true_and, and_self, and_false, false_and, true_or, or_true, false_or, or_false, reduceIte]; done) | (simp [zCpS]; done) | rfl | (simp_all [zCpS]; done))) dX3_copyFrom_72

theorem in_X3_place_X3 : ∀ w ∈ wsX30, w ∈ wsX3_place := by decide +kernel
set_option maxHeartbeats 4000000 in
set_option maxRecDepth 100000 in
theorem c_X3_place (l : Launch) (G : zG) (A : Nat → Prop) (ad : Nat → Nat) (n N : Nat) (g : Nat → Int32) (X : va_W) (hA : zAp G ad X A) (hnN : n ≤ N) (hN12 : N ≤ 12) (τ : zT) (i : Nat) (hi : i < 12) (x y b : Int32) : zMv l G A yX3_place wsX3_place 1 20 [.ref (ad (3 + i)), .int x, .int y, .int b] (zNA G ad n N g X τ) (zNA G ad n N g X (zPlc τ i x y b)) := by
  refine z_met (cc := cX3_place) (maxL := 4) (ret := none) (by decide) rfl (Nat.le_of_ble_eq_true rfl) ?_
  intro p e s m below meth c ls S hr hlk hnm hN hK hl
  have S : CallFix p m c cX3_place 4 s _ wsX3_place RX3 := S
  obtain ⟨hx, hb, hml, hown, hts⟩ := id S
  have hS : va_S A s.heap s.heap [] := va_S.rf
  have hl : lv_has ls 4 [(0, .ref (ad (3 + i))), (1, .int x), (2, .int y), (3, .int b)] := hl
  refine lv_aload_n hx hb dX3_place_0 rfl (lv_at hl 0 rfl) ?_
  refine lv_iload_n hx hb dX3_place_1 rfl (lv_at hl 1 rfl) ?_
  refine z_putS (v := .int x) (w := x) (ty := .int) hx hb hts hown in_X3_place_X3 hK hA hS hN (by omega) 0 0 (by decide) rfl (by decide) (hts _ (List.mem_of_getElem? (i := 1) (by decide +kernel))) (by decide +kernel) rfl rfl rfl (fun τ => zSet0 τ _ _) dX3_place_2 (fun H locs hN hS => ?_)
  refine lv_aload_n hx hb dX3_place_5 rfl (lv_at hl 0 rfl) ?_
  refine lv_iload_n hx hb dX3_place_6 rfl (lv_at hl 2 rfl) ?_
  refine z_putS (v := .int y) (w := y) (ty := .int) hx hb hts hown in_X3_place_X3 hK hA hS hN (by omega) 1 1 (by decide) rfl (by decide) (hts _ (List.mem_of_getElem? (i := 2) (by decide +kernel))) (by decide +kernel) rfl rfl rfl (fun τ => zSet1 τ _ _) dX3_place_7 (fun H locs hN hS => ?_)
  refine lv_aload_n hx hb dX3_place_10 rfl (lv_at hl 0 rfl) ?_
  refine lv_iload_n hx hb dX3_place_11 rfl (lv_at hl 3 rfl) ?_
  refine z_putS (v := .int b) (w := b) (ty := .int) hx hb hts hown in_X3_place_X3 hK hA hS hN (by omega) 2 2 (by decide) rfl (by decide) (hts _ (List.mem_of_getElem? (i := 3) (by decide +kernel))) (by decide +kernel) rfl rfl rfl (fun τ => zSet2 τ _ _) dX3_place_12 (fun H locs hN hS => ?_)
  refine lv_aload_n hx hb dX3_place_15 rfl (lv_at hl 0 rfl) ?_
  refine lv_iconst (v := 1) hx hb dX3_place_16 (by decide) ?_
  refine z_putS (v := .int 1) (w := 1) (ty := .boolean) hx hb hts hown in_X3_place_X3 hK hA hS hN (by omega) 3 3 (by decide) rfl (by decide) (hts _ (List.mem_of_getElem? (i := 4) (by decide +kernel))) (by decide +kernel) (by decide) (by decide) rfl (fun τ => zSet3 τ _ (by decide)) dX3_place_17 (fun H locs hN hS => ?_)
  refine lv_aload_n hx hb dX3_place_20 rfl (lv_at hl 0 rfl) ?_
  refine lv_iconst (v := 1) hx hb dX3_place_21 (by decide) ?_
  refine z_putS (v := .int 1) (w := 1) (ty := .boolean) hx hb hts hown in_X3_place_X3 hK hA hS hN (by omega) 4 4 (by decide) rfl (by decide) (hts _ (List.mem_of_getElem? (i := 5) (by decide +kernel))) (by decide +kernel) (by decide) (by decide) rfl (fun τ => zSet4 τ _ (by decide)) dX3_place_22 (fun H locs hN hS => ?_)
  refine lv_aload_n hx hb dX3_place_25 rfl (lv_at hl 0 rfl) ?_
  refine lv_iconst (v := 0) hx hb dX3_place_26 (by decide) ?_
  refine z_putS (v := .int 0) (w := 0) (ty := .int) hx hb hts hown in_X3_place_X3 hK hA hS hN (by omega) 5 5 (by decide) rfl (by decide) (hts _ (List.mem_of_getElem? (i := 6) (by decide +kernel))) (by decide +kernel) rfl rfl rfl (fun τ => zSet5 τ _ _) dX3_place_27 (fun H locs hN hS => ?_)
  refine lv_aload_n hx hb dX3_place_30 rfl (lv_at hl 0 rfl) ?_
  refine lv_bipush (v := -9) hx hb dX3_place_31 (by decide) ?_
  refine z_putS (v := .int (-9)) (w := -9) (ty := .int) hx hb hts hown in_X3_place_X3 hK hA hS hN (by omega) 6 6 (by decide) rfl (by decide) (hts _ (List.mem_of_getElem? (i := 7) (by decide +kernel))) (by decide +kernel) rfl rfl rfl (fun τ => zSet6 τ _ _) dX3_place_33 (fun H locs hN hS => ?_)
  refine lv_aload_n hx hb dX3_place_36 rfl (lv_at hl 0 rfl) ?_
  refine z_vv (As := []) (rest := []) (P2 := zNA G ad n N g X (zBr (zSt (zSt (zSt (zSt (zSt (zSt (zSt τ 0 i x) 1 i y) 2 i b) 3 i 1) 4 i 1) 5 i 0) 6 i (-9)) i)) S (c_X3_beginRound l G A ad n N g X hA hnN hN12  (zSt (zSt (zSt (zSt (zSt (zSt (zSt τ 0 i x) 1 i y) 2 i b) 3 i 1) 4 i 1) 5 i 0) 6 i (-9)) i (by omega)) (cwV 0 hts gX3_place_X3_beginRound rfl rfl rfl (by decide +kernel) ⟨Nat.le_of_ble_eq_true rfl, Nat.le_of_ble_eq_true rfl⟩) (z_recS hK hN (by omega)) hN hK hS (fun _ _ h => h) (fun _ h => h) hl.1 rfl rfl (Nat.le_of_ble_eq_true rfl) dX3_place_37 ⟨Nat.le_refl _, Nat.le_refl _⟩ (fun H locs hN hS _ => ?_)
  exact z_vret hx hb hr hlk hK hS (hN.cast (by first | with_reducible rfl | (simp only [zPlc, eq_self, ne_eq, not_true_eq_false, not_false_eq_true, and_true, true_and, and_self, and_false, false_and, true_or, or_true, false_or, or_false, reduceIte]; done) | (simp [zPlc]; done) | rfl | (simp_all [zPlc]; done))) dX3_place_40

theorem in_X1_copyFrom_X1 : ∀ w ∈ wsX10, w ∈ wsX1_copyFrom := by decide +kernel
set_option maxHeartbeats 4000000 in
set_option maxRecDepth 100000 in
theorem c_X1_copyFrom (l : Launch) (G : zG) (A : Nat → Prop) (ad bd : Nat → Nat) (n n2 N : Nat) (g g2 : Nat → Int32) (τb : zT) (hA : zAp G ad (zNet G bd n2 g2 τb) A) (hn2 : n2 ≤ 12) (hN12 : N ≤ 12) (τ : zT) : zMv l G A yX1_copyFrom wsX1_copyFrom 1 21 [.ref (ad 0), .ref (bd 0)] (zNA G ad n N g (zNet G bd n2 g2 τb) τ) (zNA G ad n2 N g2 (zNet G bd n2 g2 τb) (zCpG τb (zIt (zCpS τb) n2 τ))) := by
  refine z_met (cc := cX1_copyFrom) (maxL := 3) (ret := none) (by decide) rfl (Nat.le_of_ble_eq_true rfl) ?_
  intro p e s m below meth c ls S hr hlk hnm hN hK hl
  have S : CallFix p m c cX1_copyFrom 3 s _ wsX1_copyFrom RX1 := S
  obtain ⟨hx, hb, hml, hown, hts⟩ := id S
  have hNb := hN.other
  have hS : va_S A s.heap s.heap [] := va_S.rf
  have hl : lv_has ls 3 [(0, .ref (ad 0)), (1, .ref (bd 0))] := hl
  refine lv_aload_n hx hb dX1_copyFrom_0 rfl (lv_at hl 0 rfl) ?_
  refine lv_aload_n hx hb dX1_copyFrom_1 rfl (lv_at hl 1 rfl) ?_
  refine z_getO (v := .int (nI n2)) hx hb hts hown in_X1_copyFrom_X1 hK hNb 2 (by decide) rfl (hts _ (List.mem_of_getElem? (i := 1) (by decide +kernel))) rfl dX1_copyFrom_2 ?_
  refine z_putC (w := nI n2) hx hb hts hown in_X1_copyFrom_X1 hK hA hS hN 2 (by decide) rfl (hts _ (List.mem_of_getElem? (i := 1) (by decide +kernel))) (by decide +kernel) n2 g (by intro j hj; first | rfl | (unfold upd; rw [if_neg (by omega)])) rfl (by intro τ; first | rfl | simp [zObj, upd]) dX1_copyFrom_5 (fun H locs hN hS => ?_)
  have hNb := hN.other
  refine lv_iconst (v := 0) hx hb dX1_copyFrom_8 (by decide) ?_
  refine lv_istore_n (lv' := [(2, .int 0), (0, .ref (ad 0)), (1, .ref (bd 0))]) hx hb dX1_copyFrom_9 rfl hl (by decide) rfl (fun ls hl => ?_)
  have loop1 : ∀ (f1 k : Nat) (H : Heap) (locs : List Loc) (ls : Array Slot), k ≤ n2 → n2 < k + f1 → zNA G ad n2 N g (zNet G bd n2 g2 τb) (zIt (zCpS τb) k τ) H → va_S A s.heap H locs → lv_has ls 3 [(2, .int (nI k)), (0, .ref (ad 0)), (1, .ref (bd 0))] → W p l e ({ frames := 1, cells := 0, slots := 0, locals := 21 } : Room) s m ([.ref (ad 0), .ref (bd 0)] : List Value).toArray below meth c H locs 0 0 (MQ below (zQv G (zNA G ad n2 N g2 (zNet G bd n2 g2 τb) (zCpG τb (zIt (zCpS τb) n2 τ))) A) ([.ref (ad 0), .ref (bd 0)] : List Value).toArray s 0 0 A) (F0 m 10 ls []) := by
    intro f1
    induction f1 with
    | zero => intro k H locs ls h1 h2; exact absurd h2 (by omega)
    | succ f1 ih1 =>
      intro k H locs ls hk1 hf1 hN hS hl
      have hNb := hN.other
      generalize hF_τk : zIt (zCpS τb) k τ = τk at hN hl 
      refine lv_iload_n hx hb dX1_copyFrom_10 rfl (lv_at hl 0 rfl) ?_
      refine lv_aload_n hx hb dX1_copyFrom_11 rfl (lv_at hl 1 rfl) ?_
      refine z_getO (v := .int (nI n2)) hx hb hts hown in_X1_copyFrom_X1 hK hN 2 (by decide) rfl (hts _ (List.mem_of_getElem? (i := 1) (by decide +kernel))) rfl dX1_copyFrom_12 ?_
      refine lv_icmp_ge (tgt := 39) hx hb dX1_copyFrom_15 (by decide) (fun c_1 => ?_) (fun c_2 => ?_)
      · skip
        have c_1 := (z_leI (a := n2) (b := k) (by omega) (by omega)).mp c_1
        have hkn1 : k = n2 := by omega
        rw [hkn1] at hF_τk
        subst hF_τk
        refine lv_aload_n hx hb dX1_copyFrom_39 rfl (lv_at hl 2 rfl) ?_
        refine z_getO (v := .ref (bd 2)) hx hb hts hown in_X1_copyFrom_X1 hK hNb 1 (by decide) rfl (hts _ (List.mem_of_getElem? (i := 3) (by decide +kernel))) rfl dX1_copyFrom_40 ?_
        refine lv_iconst (v := 0) hx hb dX1_copyFrom_43 (by decide) ?_
        refine lv_aload_n hx hb dX1_copyFrom_44 rfl (lv_at hl 1 rfl) ?_
        refine z_getO (v := .ref (ad 2)) hx hb hts hown in_X1_copyFrom_X1 hK hN 1 (by decide) rfl (hts _ (List.mem_of_getElem? (i := 3) (by decide +kernel))) rfl dX1_copyFrom_45 ?_
        refine lv_iconst (v := 0) hx hb dX1_copyFrom_48 (by decide) ?_
        refine lv_bipush (v := 6) hx hb dX1_copyFrom_49 (by decide) ?_
        refine z_acp hx hb (hml.trans hl.1.symm) hown (hts _ (List.mem_of_getElem? (i := 4) (by decide +kernel))) (hts _ (List.mem_of_getElem? (i := 5) (by decide +kernel))) (hts _ (List.mem_of_getElem? (i := 6) (by decide +kernel))) (hts _ (List.mem_of_getElem? (i := 7) (by decide +kernel))) hK hA hS hN (Nat.le_of_ble_eq_true rfl) (Nat.le_of_ble_eq_true rfl) dX1_copyFrom_51 (fun H locs hN hS => ?_)
        have hNb := hN.other
        refine lv_aload_n hx hb dX1_copyFrom_54 rfl (lv_at hl 1 rfl) ?_
        refine lv_aload_n hx hb dX1_copyFrom_55 rfl (lv_at hl 2 rfl) ?_
        refine z_getO (v := .int (g2 1)) hx hb hts hown in_X1_copyFrom_X1 hK hNb 3 (by decide) rfl (hts _ (List.mem_of_getElem? (i := 8) (by decide +kernel))) rfl dX1_copyFrom_56 ?_
        refine z_putC (w := g2 1) hx hb hts hown in_X1_copyFrom_X1 hK hA hS hN 3 (by decide) rfl (hts _ (List.mem_of_getElem? (i := 8) (by decide +kernel))) (by decide +kernel) n2 (upd (fun j => if 3 ≤ j ∧ j < 9 then g2 j else g j) 1 (g2 1)) (by intro j hj; first | rfl | (unfold upd; rw [if_neg (by omega)])) rfl (by intro τ; first | rfl | simp [zObj, upd]) dX1_copyFrom_59 (fun H locs hN hS => ?_)
        have hNb := hN.other
        refine lv_aload_n hx hb dX1_copyFrom_62 rfl (lv_at hl 1 rfl) ?_
        refine lv_aload_n hx hb dX1_copyFrom_63 rfl (lv_at hl 2 rfl) ?_
        refine z_getO (v := .int (g2 2)) hx hb hts hown in_X1_copyFrom_X1 hK hNb 4 (by decide) rfl (hts _ (List.mem_of_getElem? (i := 9) (by decide +kernel))) rfl dX1_copyFrom_64 ?_
        refine z_putC (w := g2 2) hx hb hts hown in_X1_copyFrom_X1 hK hA hS hN 4 (by decide) rfl (hts _ (List.mem_of_getElem? (i := 9) (by decide +kernel))) (by decide +kernel) n2 (upd (upd (fun j => if 3 ≤ j ∧ j < 9 then g2 j else g j) 1 (g2 1)) 2 (g2 2)) (by intro j hj; first | rfl | (unfold upd; rw [if_neg (by omega)])) rfl (by intro τ; first | rfl | simp [zObj, upd]) dX1_copyFrom_67 (fun H locs hN hS => ?_)
        have hNb := hN.other
        refine lv_aload_n hx hb dX1_copyFrom_70 rfl (lv_at hl 1 rfl) ?_
        refine lv_aload_n hx hb dX1_copyFrom_71 rfl (lv_at hl 2 rfl) ?_
        refine z_getO (v := .int (τb 11 9)) hx hb hts hown in_X1_copyFrom_X1 hK hNb 5 (by decide) rfl (hts _ (List.mem_of_getElem? (i := 10) (by decide +kernel))) rfl dX1_copyFrom_72 ?_
        refine z_putO (w := τb 11 9) hx hb hts hown in_X1_copyFrom_X1 hK hA hS hN 5 9 (by decide) rfl (hts _ (List.mem_of_getElem? (i := 10) (by decide +kernel))) (by decide +kernel) rfl (fun τ => zObs5 ad _ _ τ _) dX1_copyFrom_75 (fun H locs hN hS => ?_)
        have hNb := hN.other
        refine lv_aload_n hx hb dX1_copyFrom_78 rfl (lv_at hl 1 rfl) ?_
        refine lv_aload_n hx hb dX1_copyFrom_79 rfl (lv_at hl 2 rfl) ?_
        refine z_getO (v := .int (τb 11 10)) hx hb hts hown in_X1_copyFrom_X1 hK hNb 6 (by decide) rfl (hts _ (List.mem_of_getElem? (i := 11) (by decide +kernel))) rfl dX1_copyFrom_80 ?_
        refine z_putO (w := τb 11 10) hx hb hts hown in_X1_copyFrom_X1 hK hA hS hN 6 10 (by decide) rfl (hts _ (List.mem_of_getElem? (i := 11) (by decide +kernel))) (by decide +kernel) rfl (fun τ => zObs6 ad _ _ τ _) dX1_copyFrom_83 (fun H locs hN hS => ?_)
        have hNb := hN.other
        refine lv_aload_n hx hb dX1_copyFrom_86 rfl (lv_at hl 1 rfl) ?_
        refine lv_aload_n hx hb dX1_copyFrom_87 rfl (lv_at hl 2 rfl) ?_
        refine z_getO (v := .int (τb 11 11)) hx hb hts hown in_X1_copyFrom_X1 hK hNb 7 (by decide) rfl (hts _ (List.mem_of_getElem? (i := 12) (by decide +kernel))) rfl dX1_copyFrom_88 ?_
        refine z_putO (w := τb 11 11) hx hb hts hown in_X1_copyFrom_X1 hK hA hS hN 7 11 (by decide) rfl (hts _ (List.mem_of_getElem? (i := 12) (by decide +kernel))) (by decide +kernel) rfl (fun τ => zObs7 ad _ _ τ _) dX1_copyFrom_91 (fun H locs hN hS => ?_)
        have hNb := hN.other
        refine lv_aload_n hx hb dX1_copyFrom_94 rfl (lv_at hl 1 rfl) ?_
        refine lv_aload_n hx hb dX1_copyFrom_95 rfl (lv_at hl 2 rfl) ?_
        refine z_getO (v := .int (τb 11 12)) hx hb hts hown in_X1_copyFrom_X1 hK hNb 8 (by decide) rfl (hts _ (List.mem_of_getElem? (i := 13) (by decide +kernel))) rfl dX1_copyFrom_96 ?_
        refine z_putO (w := τb 11 12) hx hb hts hown in_X1_copyFrom_X1 hK hA hS hN 8 12 (by decide) rfl (hts _ (List.mem_of_getElem? (i := 13) (by decide +kernel))) (by decide +kernel) rfl (fun τ => zObs8 ad _ _ τ _) dX1_copyFrom_99 (fun H locs hN hS => ?_)
        have hNb := hN.other
        refine lv_aload_n hx hb dX1_copyFrom_102 rfl (lv_at hl 1 rfl) ?_
        refine lv_aload_n hx hb dX1_copyFrom_103 rfl (lv_at hl 2 rfl) ?_
        refine z_getO (v := .int (τb 11 13)) hx hb hts hown in_X1_copyFrom_X1 hK hNb 9 (by decide) rfl (hts _ (List.mem_of_getElem? (i := 14) (by decide +kernel))) rfl dX1_copyFrom_104 ?_
        refine z_putO (w := τb 11 13) hx hb hts hown in_X1_copyFrom_X1 hK hA hS hN 9 13 (by decide) rfl (hts _ (List.mem_of_getElem? (i := 14) (by decide +kernel))) (by decide +kernel) rfl (fun τ => zObs9 ad _ _ τ _) dX1_copyFrom_107 (fun H locs hN hS => ?_)
        have hNb := hN.other
        refine lv_aload_n hx hb dX1_copyFrom_110 rfl (lv_at hl 1 rfl) ?_
        refine lv_aload_n hx hb dX1_copyFrom_111 rfl (lv_at hl 2 rfl) ?_
        refine z_getO (v := .int (τb 11 14)) hx hb hts hown in_X1_copyFrom_X1 hK hNb 10 (by decide) rfl (hts _ (List.mem_of_getElem? (i := 15) (by decide +kernel))) rfl dX1_copyFrom_112 ?_
        refine z_putO (w := τb 11 14) hx hb hts hown in_X1_copyFrom_X1 hK hA hS hN 10 14 (by decide) rfl (hts _ (List.mem_of_getElem? (i := 15) (by decide +kernel))) (by decide +kernel) rfl (fun τ => zObs10 ad _ _ τ _) dX1_copyFrom_115 (fun H locs hN hS => ?_)
        have hNb := hN.other
        exact z_vret hx hb hr hlk hK hS ((hN.cast (by first | with_reducible rfl | (simp only [zCpG, c_1, eq_self, ne_eq, not_true_eq_false, not_false_eq_true, and_true, true_and, and_self, and_false, false_and, true_or, or_true, false_or, or_false, reduceIte]; done) | (simp [zCpG, c_1]; done) | rfl | (simp_all [zCpG]; done))).gext (zGg g g2)) dX1_copyFrom_118
      · skip
        have c_2 := (not_congr (z_leI (a := n2) (b := k) (by omega) (by omega))).mp c_2
        refine lv_aload_n hx hb dX1_copyFrom_18 rfl (lv_at hl 1 rfl) ?_
        refine z_getO (v := .ref (ad 1)) hx hb hts hown in_X1_copyFrom_X1 hK hN 0 (by decide) rfl (hts _ (List.mem_of_getElem? (i := 2) (by decide +kernel))) rfl dX1_copyFrom_19 ?_
        refine lv_iload_n hx hb dX1_copyFrom_22 rfl (lv_at hl 0 rfl) ?_
        refine z_aald (i := k) hx hb hK hN rfl (by omega) dX1_copyFrom_23 ?_
        refine lv_aload_n hx hb dX1_copyFrom_24 rfl (lv_at hl 2 rfl) ?_
        refine z_getO (v := .ref (bd 1)) hx hb hts hown in_X1_copyFrom_X1 hK hNb 0 (by decide) rfl (hts _ (List.mem_of_getElem? (i := 2) (by decide +kernel))) rfl dX1_copyFrom_25 ?_
        refine lv_iload_n hx hb dX1_copyFrom_28 rfl (lv_at hl 0 rfl) ?_
        refine z_aald (i := k) hx hb hK hNb rfl (by omega) dX1_copyFrom_29 ?_
        refine z_vv (As := [.ref (bd (3 + k))]) (rest := []) (P2 := zNA G ad n2 N g (zNet G bd n2 g2 τb) (zCpS τb k τk)) S (c_X3_copyFrom l G A ad bd n2 n2 N g g2 τb hA hN12 τk k (by omega)) (cwV 1 hts gX1_copyFrom_X3_copyFrom rfl rfl rfl (by decide +kernel) ⟨Nat.le_of_ble_eq_true rfl, Nat.le_of_ble_eq_true rfl⟩) (z_recS hK hN (by omega)) hN hK hS (fun _ _ h => h) (fun _ h => h) hl.1 rfl rfl (Nat.le_of_ble_eq_true rfl) dX1_copyFrom_30 ⟨Nat.le_refl _, Nat.le_refl _⟩ (fun H locs hN hS _ => ?_)
        have hNb := hN.other
        refine lv_iinc (v := nI (k + 1)) (lv' := [(2, .int (nI (k + 1))), (0, .ref (ad 0)), (1, .ref (bd 0))]) hx hb dX1_copyFrom_33 hl (k := 0) rfl (nI_1 _) (by decide) rfl (fun ls hl => ?_)
        refine lv_goto (tgt := 10) hx hb dX1_copyFrom_36 (by decide) ?_
        have e_3 : zIt (zCpS τb) (k + 1) τ = zCpS τb k τk := by
          rw [zIt_s, hF_τk] <;> (first | with_reducible rfl | (simp only [c_2, eq_self, ne_eq, not_true_eq_false, not_false_eq_true, and_true, true_and, and_self, and_false, false_and, true_or, or_true, false_or, or_false, reduceIte]; done) | (simp [c_2]; done) | rfl | (simp_all []; done))
        refine ih1 (k + 1) _ _ _ (by omega) (by omega) ?_ hS ?_
        · first | exact hN | (rw [e_3]; exact hN)
        · first | exact lv_sub hl [0, 1, 2] rfl | (rw [e_3]; exact lv_sub hl [0, 1, 2] rfl)
  exact loop1 (n2 + 1) 0 _ _ _ (by omega) (by omega) hN hS (lv_sub hl [0, 1, 2] rfl)
