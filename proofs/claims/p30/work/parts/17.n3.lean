/-! rows laid by my own program (wip/whole/gen) -/
theorem in_X2_performOne_X1 : ∀ w ∈ wsX10, w ∈ wsX2_performOne := by decide +kernel
theorem in_X2_performOne_X2 : ∀ w ∈ wsX20, w ∈ wsX2_performOne := by decide +kernel
set_option maxHeartbeats 4000000 in
set_option maxRecDepth 100000 in
theorem c_X2_performOne (l : Launch) (G : zG) (A : Nat → Prop) (ad : Nat → Nat) (n : Nat) (g : Nat → Int32) (r : Nat) (hA : zAp G ad (zX r ad) A) (hn12 : n ≤ 12) (hd3 : 0 < g 3) (hd5 : 0 < g 5) (τ : zT) (hg : 0 ≤ τ 11 9) : zMv l G A yX2_performOne wsX2_performOne 4 94 [.ref r] (zN9 G ad n g (zX r ad) τ) (zN9 G ad n g (zX r ad) (zRd n g τ)) := by
  refine z_met (cc := cX2_performOne) (maxL := 1) (ret := none) (by decide) rfl (Nat.le_of_ble_eq_true rfl) ?_
  intro p e s m below meth c ls S hr hlk hnm hN hK hl
  have S : CallFix p m c cX2_performOne 1 s _ wsX2_performOne RX2 := S
  obtain ⟨hx, hb, hml, hown, hts⟩ := id S
  obtain ⟨τ9, h9, hN⟩ := hN
  have hnN : n ≤ n := Nat.le_refl n
  have hN12 := hn12
  have hS : va_S A s.heap s.heap [] := va_S.rf
  have hl : lv_has ls 1 [(0, .ref r)] := hl
  refine lv_aload_n hx hb dX2_performOne_0 rfl (lv_at hl 0 rfl) ?_
  refine z_vv (As := []) (rest := []) (P2 := zNA G ad n n g (zX r ad) (zBg n g τ9)) S (c_X2_begin l G A ad n n g r hA hnN hN12 hd3 τ9 ) (cwV 0 hts gX2_performOne_X2_begin rfl rfl rfl (by decide +kernel) ⟨Nat.le_of_ble_eq_true rfl, Nat.le_of_ble_eq_true rfl⟩) (z_recR hK hN) hN hK hS (fun _ _ h => h) (fun _ h => h) hl.1 rfl rfl (Nat.le_of_ble_eq_true rfl) dX2_performOne_1 ⟨Nat.le_refl _, Nat.le_refl _⟩ (fun H locs hN hS _ => ?_)
  have hN := hN.to (zBg_ag h9)
  have hgb : 0 ≤ (zBg n g τ) 11 9 := zBg_gen hg
  refine lv_aload_n hx hb dX2_performOne_4 rfl (lv_at hl 0 rfl) ?_
  refine z_vv (As := []) (rest := []) (P2 := zNA G ad n n g (zX r ad) (zEl n g (zBg n g τ))) S (c_X2_elect l G A ad n n g r hA hnN hN12 hd3 (zBg n g τ) (by assumption)) (cwV 0 hts gX2_performOne_X2_elect rfl rfl rfl (by decide +kernel) ⟨Nat.le_of_ble_eq_true rfl, Nat.le_of_ble_eq_true rfl⟩) (z_recR hK hN) hN hK hS (fun _ _ h => h) (fun _ h => h) hl.1 rfl rfl (Nat.le_of_ble_eq_true rfl) dX2_performOne_5 ⟨Nat.le_refl _, Nat.le_refl _⟩ (fun H locs hN hS _ => ?_)
  refine lv_aload_n hx hb dX2_performOne_8 rfl (lv_at hl 0 rfl) ?_
  refine z_vv (As := []) (rest := []) (P2 := zNA G ad n n g (zX r ad) (zIt (zAnS g) n (zEl n g (zBg n g τ)))) S (c_X2_announce l G A ad n n g r hA hnN hN12  (zEl n g (zBg n g τ)) ) (cwV 0 hts gX2_performOne_X2_announce rfl rfl rfl (by decide +kernel) ⟨Nat.le_of_ble_eq_true rfl, Nat.le_of_ble_eq_true rfl⟩) (z_recR hK hN) hN hK hS (fun _ _ h => h) (fun _ h => h) hl.1 rfl rfl (Nat.le_of_ble_eq_true rfl) dX2_performOne_9 ⟨Nat.le_refl _, Nat.le_refl _⟩ (fun H locs hN hS _ => ?_)
  refine lv_aload_n hx hb dX2_performOne_12 rfl (lv_at hl 0 rfl) ?_
  refine z_getR hx hb hts hown in_X2_performOne_X2 hK hN (hts _ (List.mem_of_getElem? (i := 1) (by decide +kernel))) dX2_performOne_13 ?_
  refine z_getO (v := .int ((zIt (zAnS g) n (zEl n g (zBg n g τ))) 11 11)) hx hb hts hown in_X2_performOne_X1 hK hN 7 (by decide) rfl (hts _ (List.mem_of_getElem? (i := 2) (by decide +kernel))) rfl dX2_performOne_16 ?_
  refine lv_if_ne (tgt := 29) hx hb dX2_performOne_19 (by decide) (fun c_1 => ?_) (fun c_2 => ?_)
  · skip
    refine lv_aload_n hx hb dX2_performOne_29 rfl (lv_at hl 0 rfl) ?_
    refine z_vv (As := []) (rest := []) (P2 := zNA G ad n n g (zX r ad) (zJo n (zIt (zAnS g) n (zEl n g (zBg n g τ))))) S (c_X2_join l G A ad n n g r hA hnN hN12  (zIt (zAnS g) n (zEl n g (zBg n g τ))) ) (cwV 0 hts gX2_performOne_X2_join rfl rfl rfl (by decide +kernel) ⟨Nat.le_of_ble_eq_true rfl, Nat.le_of_ble_eq_true rfl⟩) (z_recR hK hN) hN hK hS (fun _ _ h => h) (fun _ h => h) hl.1 rfl rfl (Nat.le_of_ble_eq_true rfl) dX2_performOne_30 ⟨Nat.le_refl _, Nat.le_refl _⟩ (fun H locs hN hS _ => ?_)
    refine lv_aload_n hx hb dX2_performOne_33 rfl (lv_at hl 0 rfl) ?_
    refine z_vv (As := []) (rest := []) (P2 := zNA G ad n n g (zX r ad) (zIt (zRhS n g) n (zJo n (zIt (zAnS g) n (zEl n g (zBg n g τ)))))) S (c_X2_reportToHeads l G A ad n n g r hA hnN hN12 hd5 (zJo n (zIt (zAnS g) n (zEl n g (zBg n g τ)))) ) (cwV 0 hts gX2_performOne_X2_reportToHeads rfl rfl rfl (by decide +kernel) ⟨Nat.le_of_ble_eq_true rfl, Nat.le_of_ble_eq_true rfl⟩) (z_recR hK hN) hN hK hS (fun _ _ h => h) (fun _ h => h) hl.1 rfl rfl (Nat.le_of_ble_eq_true rfl) dX2_performOne_34 ⟨Nat.le_refl _, Nat.le_refl _⟩ (fun H locs hN hS _ => ?_)
    refine lv_aload_n hx hb dX2_performOne_37 rfl (lv_at hl 0 rfl) ?_
    refine z_vv (As := []) (rest := []) (P2 := zNA G ad n n g (zX r ad) (zIt (zOwS g) n (zIt (zRhS n g) n (zJo n (zIt (zAnS g) n (zEl n g (zBg n g τ))))))) S (c_X2_addOwnReadings l G A ad n n g r hA hnN hN12  (zIt (zRhS n g) n (zJo n (zIt (zAnS g) n (zEl n g (zBg n g τ))))) ) (cwV 0 hts gX2_performOne_X2_addOwnReadings rfl rfl rfl (by decide +kernel) ⟨Nat.le_of_ble_eq_true rfl, Nat.le_of_ble_eq_true rfl⟩) (z_recR hK hN) hN hK hS (fun _ _ h => h) (fun _ h => h) hl.1 rfl rfl (Nat.le_of_ble_eq_true rfl) dX2_performOne_38 ⟨Nat.le_refl _, Nat.le_refl _⟩ (fun H locs hN hS _ => ?_)
    refine lv_aload_n hx hb dX2_performOne_41 rfl (lv_at hl 0 rfl) ?_
    refine z_vv (As := []) (rest := []) (P2 := zNA G ad n n g (zX r ad) (zDv n g (zIt (zOwS g) n (zIt (zRhS n g) n (zJo n (zIt (zAnS g) n (zEl n g (zBg n g τ)))))))) S (c_X2_deliver l G A ad n n g r hA hnN hN12 hd5 (zIt (zOwS g) n (zIt (zRhS n g) n (zJo n (zIt (zAnS g) n (zEl n g (zBg n g τ)))))) ) (cwV 0 hts gX2_performOne_X2_deliver rfl rfl rfl (by decide +kernel) ⟨Nat.le_of_ble_eq_true rfl, Nat.le_of_ble_eq_true rfl⟩) (z_recR hK hN) hN hK hS (fun _ _ h => h) (fun _ h => h) hl.1 rfl rfl (Nat.le_of_ble_eq_true rfl) dX2_performOne_42 ⟨Nat.le_refl _, Nat.le_refl _⟩ (fun H locs hN hS _ => ?_)
    refine lv_aload_n hx hb dX2_performOne_45 rfl (lv_at hl 0 rfl) ?_
    refine z_getR hx hb hts hown in_X2_performOne_X2 hK hN (hts _ (List.mem_of_getElem? (i := 1) (by decide +kernel))) dX2_performOne_46 ?_
    refine lv_dup hx hb dX2_performOne_49 rfl ?_
    refine z_getO (v := .int ((zDv n g (zIt (zOwS g) n (zIt (zRhS n g) n (zJo n (zIt (zAnS g) n (zEl n g (zBg n g τ))))))) 11 13)) hx hb hts hown in_X2_performOne_X1 hK hN 9 (by decide) rfl (hts _ (List.mem_of_getElem? (i := 3) (by decide +kernel))) rfl dX2_performOne_50 ?_
    refine lv_aload_n hx hb dX2_performOne_53 rfl (lv_at hl 0 rfl) ?_
    refine z_getR hx hb hts hown in_X2_performOne_X2 hK hN (hts _ (List.mem_of_getElem? (i := 1) (by decide +kernel))) dX2_performOne_54 ?_
    refine z_getO (v := .int ((zDv n g (zIt (zOwS g) n (zIt (zRhS n g) n (zJo n (zIt (zAnS g) n (zEl n g (zBg n g τ))))))) 11 12)) hx hb hts hown in_X2_performOne_X1 hK hN 8 (by decide) rfl (hts _ (List.mem_of_getElem? (i := 4) (by decide +kernel))) rfl dX2_performOne_57 ?_
    refine lv_iadd hx hb dX2_performOne_60 ?_
    refine z_putO (w := ((zDv n g (zIt (zOwS g) n (zIt (zRhS n g) n (zJo n (zIt (zAnS g) n (zEl n g (zBg n g τ))))))) 11 13) + ((zDv n g (zIt (zOwS g) n (zIt (zRhS n g) n (zJo n (zIt (zAnS g) n (zEl n g (zBg n g τ))))))) 11 12)) hx hb hts hown in_X2_performOne_X1 hK hA hS hN 9 13 (by decide) rfl (hts _ (List.mem_of_getElem? (i := 3) (by decide +kernel))) (by decide +kernel) rfl (fun τ => zObs9 ad n g τ _) dX2_performOne_61 (fun H locs hN hS => ?_)
    refine lv_aload_n hx hb dX2_performOne_64 rfl (lv_at hl 0 rfl) ?_
    refine z_getR hx hb hts hown in_X2_performOne_X2 hK hN (hts _ (List.mem_of_getElem? (i := 1) (by decide +kernel))) dX2_performOne_65 ?_
    refine lv_dup hx hb dX2_performOne_68 rfl ?_
    refine z_getO (v := .int ((zDv n g (zIt (zOwS g) n (zIt (zRhS n g) n (zJo n (zIt (zAnS g) n (zEl n g (zBg n g τ))))))) 11 10)) hx hb hts hown in_X2_performOne_X1 hK hN 6 (by decide) rfl (hts _ (List.mem_of_getElem? (i := 5) (by decide +kernel))) rfl dX2_performOne_69 ?_
    refine lv_iconst (v := 1) hx hb dX2_performOne_72 (by decide) ?_
    refine lv_iadd hx hb dX2_performOne_73 ?_
    refine z_putO (w := ((zDv n g (zIt (zOwS g) n (zIt (zRhS n g) n (zJo n (zIt (zAnS g) n (zEl n g (zBg n g τ))))))) 11 10) + 1) hx hb hts hown in_X2_performOne_X1 hK hA hS hN 6 10 (by decide) rfl (hts _ (List.mem_of_getElem? (i := 5) (by decide +kernel))) (by decide +kernel) rfl (fun τ => zObs6 ad n g τ _) dX2_performOne_74 (fun H locs hN hS => ?_)
    exact z_vret hx hb hr hlk hK hS (⟨_, zE9.rf, hN.cast (by first | with_reducible rfl | (simp only [zRd, zR1, zR3, zR2, c_1, eq_self, ne_eq, not_true_eq_false, not_false_eq_true, and_true, true_and, and_self, and_false, false_and, true_or, or_true, false_or, or_false, reduceIte]; done) | (simp [zRd, zR1, zR3, zR2, c_1]; done) | rfl | (simp_all [zRd, zR1, zR3, zR2]; done))⟩) dX2_performOne_77
  · skip
    refine lv_aload_n hx hb dX2_performOne_22 rfl (lv_at hl 0 rfl) ?_
    refine z_vv (As := []) (rest := []) (P2 := zNA G ad n n g (zX r ad) (zIt (zRbS g) n (zIt (zAnS g) n (zEl n g (zBg n g τ))))) S (c_X2_reportToBase l G A ad n n g r hA hnN hN12 hd5 (zIt (zAnS g) n (zEl n g (zBg n g τ))) ) (cwV 0 hts gX2_performOne_X2_reportToBase rfl rfl rfl (by decide +kernel) ⟨Nat.le_of_ble_eq_true rfl, Nat.le_of_ble_eq_true rfl⟩) (z_recR hK hN) hN hK hS (fun _ _ h => h) (fun _ h => h) hl.1 rfl rfl (Nat.le_of_ble_eq_true rfl) dX2_performOne_23 ⟨Nat.le_refl _, Nat.le_refl _⟩ (fun H locs hN hS _ => ?_)
    refine lv_goto (tgt := 45) hx hb dX2_performOne_26 (by decide) ?_
    refine lv_aload_n hx hb dX2_performOne_45 rfl (lv_at hl 0 rfl) ?_
    refine z_getR hx hb hts hown in_X2_performOne_X2 hK hN (hts _ (List.mem_of_getElem? (i := 1) (by decide +kernel))) dX2_performOne_46 ?_
    refine lv_dup hx hb dX2_performOne_49 rfl ?_
    refine z_getO (v := .int ((zIt (zRbS g) n (zIt (zAnS g) n (zEl n g (zBg n g τ)))) 11 13)) hx hb hts hown in_X2_performOne_X1 hK hN 9 (by decide) rfl (hts _ (List.mem_of_getElem? (i := 3) (by decide +kernel))) rfl dX2_performOne_50 ?_
    refine lv_aload_n hx hb dX2_performOne_53 rfl (lv_at hl 0 rfl) ?_
    refine z_getR hx hb hts hown in_X2_performOne_X2 hK hN (hts _ (List.mem_of_getElem? (i := 1) (by decide +kernel))) dX2_performOne_54 ?_
    refine z_getO (v := .int ((zIt (zRbS g) n (zIt (zAnS g) n (zEl n g (zBg n g τ)))) 11 12)) hx hb hts hown in_X2_performOne_X1 hK hN 8 (by decide) rfl (hts _ (List.mem_of_getElem? (i := 4) (by decide +kernel))) rfl dX2_performOne_57 ?_
    refine lv_iadd hx hb dX2_performOne_60 ?_
    refine z_putO (w := ((zIt (zRbS g) n (zIt (zAnS g) n (zEl n g (zBg n g τ)))) 11 13) + ((zIt (zRbS g) n (zIt (zAnS g) n (zEl n g (zBg n g τ)))) 11 12)) hx hb hts hown in_X2_performOne_X1 hK hA hS hN 9 13 (by decide) rfl (hts _ (List.mem_of_getElem? (i := 3) (by decide +kernel))) (by decide +kernel) rfl (fun τ => zObs9 ad n g τ _) dX2_performOne_61 (fun H locs hN hS => ?_)
    refine lv_aload_n hx hb dX2_performOne_64 rfl (lv_at hl 0 rfl) ?_
    refine z_getR hx hb hts hown in_X2_performOne_X2 hK hN (hts _ (List.mem_of_getElem? (i := 1) (by decide +kernel))) dX2_performOne_65 ?_
    refine lv_dup hx hb dX2_performOne_68 rfl ?_
    refine z_getO (v := .int ((zIt (zRbS g) n (zIt (zAnS g) n (zEl n g (zBg n g τ)))) 11 10)) hx hb hts hown in_X2_performOne_X1 hK hN 6 (by decide) rfl (hts _ (List.mem_of_getElem? (i := 5) (by decide +kernel))) rfl dX2_performOne_69 ?_
    refine lv_iconst (v := 1) hx hb dX2_performOne_72 (by decide) ?_
    refine lv_iadd hx hb dX2_performOne_73 ?_
    refine z_putO (w := ((zIt (zRbS g) n (zIt (zAnS g) n (zEl n g (zBg n g τ)))) 11 10) + 1) hx hb hts hown in_X2_performOne_X1 hK hA hS hN 6 10 (by decide) rfl (hts _ (List.mem_of_getElem? (i := 5) (by decide +kernel))) (by decide +kernel) rfl (fun τ => zObs6 ad n g τ _) dX2_performOne_74 (fun H locs hN hS => ?_)
    exact z_vret hx hb hr hlk hK hS (⟨_, zE9.rf, hN.cast (by first | with_reducible rfl | (simp only [zRd, zR1, zR3, zR2, c_2, eq_self, ne_eq, not_true_eq_false, not_false_eq_true, and_true, true_and, and_self, and_false, false_and, true_or, or_true, false_or, or_false, reduceIte]; done) | (simp [zRd, zR1, zR3, zR2, c_2]; done) | rfl | (simp_all [zRd, zR1, zR3, zR2]; done))⟩) dX2_performOne_77
theorem in_X2_perform_X2 : ∀ w ∈ wsX20, w ∈ wsX2_perform := by decide +kernel
set_option maxHeartbeats 4000000 in
set_option maxRecDepth 100000 in
/-- rounds until none is alive, at most lim -/
theorem c_X2_perform (l : Launch) (G : zG) (A : Nat → Prop) (ad : Nat → Nat) (n : Nat) (g : Nat → Int32) (r : Nat) (hA : zAp G ad (zX r ad) A) (hn12 : n ≤ 12) (hd3 : 0 < g 3) (hd5 : 0 < g 5) (τ : zT) (hg : 0 ≤ τ 11 9) (lim : Nat) (hlim : lim ≤ 300) : zMi l G A yX2_perform wsX2_perform 5 114 [.ref r, .int (nI lim)] (zN9 G ad n g (zX r ad) τ) (nI (zPf n g lim τ).1) (zN9 G ad n g (zX r ad) (zPf n g lim τ).2) := by
  refine z_met (cc := cX2_perform) (maxL := 3) (ret := (some .int)) (by decide) rfl (Nat.le_of_ble_eq_true rfl) ?_
  intro p e s m below meth c ls S hr hlk hnm hN hK hl
  have S : CallFix p m c cX2_perform 3 s _ wsX2_perform RX2 := S
  obtain ⟨hx, hb, hml, hown, hts⟩ := id S
  have hnN : n ≤ n := Nat.le_refl n
  have hS : va_S A s.heap s.heap [] := va_S.rf
  have hl : lv_has ls 3 [(0, .ref r), (1, .int (nI lim))] := hl
  refine lv_iconst (v := 0) hx hb dX2_perform_0 (by decide) ?_
  refine lv_istore_n (lv' := [(2, .int 0), (0, .ref r), (1, .int (nI lim))]) hx hb dX2_perform_1 rfl hl (by decide) rfl (fun ls hl => ?_)
  have loop : ∀ (f k : Nat) (H : Heap) (locs : List Loc) (ls : Array Slot), k ≤ lim → lim < k + f → (zIt (zPfS n g) k (0, τ)).1 = k → zN9 G ad n g (zX r ad) (zIt (zPfS n g) k (0, τ)).2 H → va_S A s.heap H locs → lv_has ls 3 [(2, .int (nI k)), (0, .ref r), (1, .int (nI lim))] →
      W p l e ({ frames := 5, cells := 0, slots := 0, locals := 114 } : Room) s m ([.ref r, .int (nI lim)] : List Value).toArray below meth c H locs 0 0 (MQ below (zQi G (nI (zPf n g lim τ).1) (zN9 G ad n g (zX r ad) (zPf n g lim τ).2) A) ([.ref r, .int (nI lim)] : List Value).toArray s 0 0 A) (F0 m 2 ls []) := by
    intro f
    induction f with
    | zero => intro k H locs ls h1 h2; exact absurd h2 (by omega)
    | succ f ih =>
      intro k H locs ls hk hf h1 hN hS hl
      have hgk := zPf_gen hg (n := n) (g := g) k
      refine lv_iload_n hx hb dX2_perform_2 rfl (lv_at hl 0 rfl) ?_
      refine lv_iload_n hx hb dX2_perform_3 rfl (lv_at hl 2 rfl) ?_
      refine lv_icmp_ge (tgt := 27) hx hb dX2_perform_4 (by decide) (fun c_1 => ?_) (fun c_1 => ?_)
      · have c_1 := (z_leI (a := lim) (b := k) (by omega) (by omega)).mp c_1
        have hkl : k = lim := by omega
        refine lv_iload_n hx hb dX2_perform_27 rfl (lv_at hl 0 rfl) ?_
        refine z_top (x2 := nI (zPf n g lim τ).1) (by rw [← hkl]; exact congrArg nI h1.symm) ?_
        exact z_iret hx hb hr hlk hK hS (by rw [← hkl]; exact hN) dX2_perform_28
      · have c_1 := (not_congr (z_leI (a := lim) (b := k) (by omega) (by omega))).mp c_1
        refine lv_aload_n hx hb dX2_perform_7 rfl (lv_at hl 1 rfl) ?_
        obtain ⟨τ9, h9, hN9⟩ := id hN
        refine z_getR hx hb hts hown in_X2_perform_X2 hK hN9 (hts _ (List.mem_of_getElem? (i := 1) (by decide +kernel))) dX2_perform_8 ?_
        refine z_vi (As := []) (rest := []) (P2 := zNA G ad n n g (zX r ad) τ9) (r := zCa n τ9) S (c_X1_countAlive l G A ad n n g (zX r ad) hA hnN hn12 τ9) (cwV 0 hts gX2_perform_X1_countAlive rfl rfl rfl (by decide +kernel) ⟨Nat.le_of_ble_eq_true rfl, Nat.le_of_ble_eq_true rfl⟩) (z_recN hK hN9) hN9 hK hS (fun _ _ h => h) (fun _ h => h) hl.1 rfl rfl (Nat.le_of_ble_eq_true rfl) dX2_perform_11 ⟨Nat.le_refl _, Nat.le_refl _⟩ (fun H locs hN9 hS _ => ?_)
        have hN : zN9 G ad n g (zX r ad) (zIt (zPfS n g) k (0, τ)).2 H := ⟨τ9, h9, hN9⟩
        have e9 := zCaS_9 h9 n
        rw [e9]
        refine lv_if_le (tgt := 27) hx hb dX2_perform_14 (by decide) (fun c_2 => ?_) (fun c_2 => ?_)
        · have c_2 := Int32.not_lt.mpr c_2
          have hst : zPf n g lim τ = zIt (zPfS n g) k (0, τ) := by
            have := zPf_stop c_2 (lim - k)
            rw [show k + (lim - k) = lim by omega] at this
            exact this
          refine lv_iload_n hx hb dX2_perform_27 rfl (lv_at hl 0 rfl) ?_
          refine z_top (x2 := nI (zPf n g lim τ).1) (by rw [hst]; exact congrArg nI h1.symm) ?_
          exact z_iret hx hb hr hlk hK hS (by rw [hst]; exact hN) dX2_perform_28
        · have c_2 := Int32.not_le.mp c_2
          have hs : zIt (zPfS n g) (k + 1) (0, τ) = ((zIt (zPfS n g) k (0, τ)).1 + 1, zRd n g (zIt (zPfS n g) k (0, τ)).2) := by
            rw [zIt_s]
            generalize zIt (zPfS n g) k (0, τ) = u at c_2 ⊢
            unfold zPfS
            rw [if_pos c_2]
          refine lv_aload_n hx hb dX2_perform_17 rfl (lv_at hl 1 rfl) ?_
          refine z_vv (As := []) (rest := []) (P2 := zN9 G ad n g (zX r ad) (zRd n g (zIt (zPfS n g) k (0, τ)).2)) S (c_X2_performOne l G A ad n g r hA hn12 hd3 hd5 (zIt (zPfS n g) k (0, τ)).2 hgk) (cwV 0 hts gX2_perform_X2_performOne rfl rfl rfl (by decide +kernel) ⟨Nat.le_of_ble_eq_true rfl, Nat.le_of_ble_eq_true rfl⟩) (z_recR hK hN9) hN hK hS (fun _ _ h => h) (fun _ h => h) hl.1 rfl rfl (Nat.le_of_ble_eq_true rfl) dX2_perform_18 ⟨Nat.le_refl _, Nat.le_refl _⟩ (fun H locs hN hS _ => ?_)
          refine lv_iinc (v := nI (k + 1)) (lv' := [(2, .int (nI (k + 1))), (0, .ref r), (1, .int (nI lim))]) hx hb dX2_perform_21 hl (k := 0) rfl (nI_1 _) (by decide) rfl (fun ls hl => ?_)
          refine lv_goto (tgt := 2) hx hb dX2_perform_24 (by decide) ?_
          refine ih (k + 1) _ _ _ (by omega) (by omega) ?_ ?_ hS hl
          · rw [hs, h1]
          · rw [hs]; exact hN
  exact loop (lim + 1) 0 _ _ _ (by omega) (by omega) rfl hN hS (lv_sub hl [0, 1, 2] rfl)
