/-! rows laid by my own program (wip/whole/gen) -/
theorem z_has_no (l : Launch) (G : zG) (A : Nat → Prop) (ad : Nat → Nat) (n N : Nat) (g : Nat → Int32) (X : va_W) (hA : zAp G ad X A) (hnN : n ≤ N) (hN12 : N ≤ 12) (τ : zT) : zMi l G A yX1_has wsX1_has 0 0 [.ref (ad 0), .int (-9)] (zNA G ad n N g X τ) 0 (zNA G ad n N g X τ) := by
  have h := c_X1_has l G A ad n N g X hA hnN hN12 τ (-9)
  rwa [zBi_f (fun q => q.1 (by decide))] at h
theorem z_has_yes (l : Launch) (G : zG) (A : Nat → Prop) (ad : Nat → Nat) (n N : Nat) (g : Nat → Int32) (X : va_W) (hA : zAp G ad X A) (hnN : n ≤ N) (hN12 : N ≤ 12) (τ : zT) (b : Nat) (hb : b < n) : zMi l G A yX1_has wsX1_has 0 0 [.ref (ad 0), .int (nI b)] (zNA G ad n N g X τ) 1 (zNA G ad n N g X τ) := by
  have h := c_X1_has l G A ad n N g X hA hnN hN12 τ (nI b)
  rwa [zBi_t ⟨nI_pos (by omega), nI_lt hb (by omega)⟩] at h
theorem in_X2_draw_X1 : ∀ w ∈ wsX10, w ∈ wsX2_draw := by decide +kernel
theorem in_X2_draw_X2 : ∀ w ∈ wsX20, w ∈ wsX2_draw := by decide +kernel
set_option maxHeartbeats 4000000 in
set_option maxRecDepth 100000 in
theorem c_X2_draw (l : Launch) (G : zG) (A : Nat → Prop) (ad : Nat → Nat) (n N : Nat) (g : Nat → Int32) (r : Nat) (hA : zAp G ad (zX r ad) A) (hnN : n ≤ N) (hN12 : N ≤ 12) (τ : zT) (hg : 0 ≤ τ 11 9) : zMi l G A yX2_draw wsX2_draw 0 0 [.ref r] (zNA G ad n N g (zX r ad) τ) (zDr (zNx (τ 11 9))) (zNA G ad n N g (zX r ad) (zDw τ)) := by
  refine z_met (cc := cX2_draw) (maxL := 3) (ret := (some .int)) (by decide) rfl (Nat.le_of_ble_eq_true rfl) ?_
  intro p e s m below meth c ls S hr hlk hnm hN hK hl
  have S : CallFix p m c cX2_draw 3 s _ wsX2_draw RX2 := S
  obtain ⟨hx, hb, hml, hown, hts⟩ := id S
  have hS : va_S A s.heap s.heap [] := va_S.rf
  have hl : lv_has ls 3 [(0, .ref r)] := hl
  refine lv_aload_n hx hb dX2_draw_0 rfl (lv_at hl 0 rfl) ?_
  refine z_getR hx hb hts hown in_X2_draw_X2 hK hN (hts _ (List.mem_of_getElem? (i := 1) (by decide +kernel))) dX2_draw_1 ?_
  refine z_getO (v := .int (τ 11 9)) hx hb hts hown in_X2_draw_X1 hK hN 5 (by decide) rfl (hts _ (List.mem_of_getElem? (i := 2) (by decide +kernel))) rfl dX2_draw_4 ?_
  refine lv_i2l (v := Int32.toInt64 (τ 11 9)) hx hb dX2_draw_7 rfl ?_
  refine lv_ldc2 (v := 1103515245) hx hb hown (hts _ (List.mem_of_getElem? (i := 3) (by decide +kernel))) dX2_draw_8 ?_
  refine lv_lmul hx hb dX2_draw_11 ?_
  refine lv_ldc2 (v := 12345) hx hb hown (hts _ (List.mem_of_getElem? (i := 4) (by decide +kernel))) dX2_draw_12 ?_
  refine lv_ladd hx hb dX2_draw_15 ?_
  refine lv_ldc2 (v := 2147483648) hx hb hown (hts _ (List.mem_of_getElem? (i := 5) (by decide +kernel))) dX2_draw_16 ?_
  refine lv_lrem hx hb dX2_draw_19 (by decide) ?_
  refine lv_lstore_n (lv' := [(1, .long ((((Int32.toInt64 (τ 11 9)) * 1103515245) + 12345) - (((Int32.toInt64 (τ 11 9)) * 1103515245) + 12345) / 2147483648 * 2147483648)), (0, .ref r)]) hx hb dX2_draw_20 rfl hl (by decide) rfl (fun ls hl => ?_)
  refine lv_aload_n hx hb dX2_draw_21 rfl (lv_at hl 1 rfl) ?_
  refine z_getR hx hb hts hown in_X2_draw_X2 hK hN (hts _ (List.mem_of_getElem? (i := 1) (by decide +kernel))) dX2_draw_22 ?_
  refine lv_lload_n hx hb dX2_draw_25 rfl (lv_at hl 0 rfl) ?_
  refine lv_l2i (v := Int64.toInt32 ((((Int32.toInt64 (τ 11 9)) * 1103515245) + 12345) - (((Int32.toInt64 (τ 11 9)) * 1103515245) + 12345) / 2147483648 * 2147483648)) hx hb dX2_draw_26 rfl ?_
  refine z_putO (w := Int64.toInt32 ((((Int32.toInt64 (τ 11 9)) * 1103515245) + 12345) - (((Int32.toInt64 (τ 11 9)) * 1103515245) + 12345) / 2147483648 * 2147483648)) hx hb hts hown in_X2_draw_X1 hK hA hS hN 5 9 (by decide) rfl (hts _ (List.mem_of_getElem? (i := 2) (by decide +kernel))) (by decide +kernel) rfl (fun τ => zObs5 ad n g τ _) dX2_draw_27 (fun H locs hN hS => ?_)
  refine lv_aload_n hx hb dX2_draw_30 rfl (lv_at hl 1 rfl) ?_
  refine z_getR hx hb hts hown in_X2_draw_X2 hK hN (hts _ (List.mem_of_getElem? (i := 1) (by decide +kernel))) dX2_draw_31 ?_
  refine z_getO (v := .int (Int64.toInt32 ((((Int32.toInt64 (τ 11 9)) * 1103515245) + 12345) - (((Int32.toInt64 (τ 11 9)) * 1103515245) + 12345) / 2147483648 * 2147483648))) hx hb hts hown in_X2_draw_X1 hK hN 5 (by decide) rfl (hts _ (List.mem_of_getElem? (i := 2) (by decide +kernel))) (congrArg (fun z => some (Value.int z)) (zSt_self τ 11 9 (Int64.toInt32 ((((Int32.toInt64 (τ 11 9)) * 1103515245) + 12345) - (((Int32.toInt64 (τ 11 9)) * 1103515245) + 12345) / 2147483648 * 2147483648)))) dX2_draw_34 ?_
  refine lv_ldc (v := 65536) hx hb hown (hts _ (List.mem_of_getElem? (i := 6) (by decide +kernel))) dX2_draw_37 ?_
  refine lv_idiv hx hb dX2_draw_39 (by decide) ?_
  refine lv_sipush (v := 1000) hx hb dX2_draw_40 (by decide) ?_
  refine lv_irem hx hb dX2_draw_43 (by decide) ?_
  refine z_top (x2 := zDr (zNx (τ 11 9))) (by first | with_reducible rfl | (simp only [zDraw_eq hg, zDr, zDw, eq_self, ne_eq, not_true_eq_false, not_false_eq_true, and_true, true_and, and_self, and_false, false_and, true_or, or_true, false_or, or_false, reduceIte]; done) | (simp [zDraw_eq hg, zDr, zDw]; done) | rfl | (simp_all [zDraw_eq hg, zDr, zDw]; done)) ?_
  exact z_iret hx hb hr hlk hK hS (hN.cast (by first | with_reducible rfl | (simp only [zDraw_eq hg, zDr, zDw, eq_self, ne_eq, not_true_eq_false, not_false_eq_true, and_true, true_and, and_self, and_false, false_and, true_or, or_true, false_or, or_false, reduceIte]; done) | (simp [zDraw_eq hg, zDr, zDw]; done) | rfl | (simp_all [zDraw_eq hg, zDr, zDw]; done))) dX2_draw_44

theorem in_X2_elect_X1 : ∀ w ∈ wsX10, w ∈ wsX2_elect := by decide +kernel
theorem in_X2_elect_X2 : ∀ w ∈ wsX20, w ∈ wsX2_elect := by decide +kernel
theorem in_X2_elect_X3 : ∀ w ∈ wsX30, w ∈ wsX2_elect := by decide +kernel
set_option maxHeartbeats 4000000 in
set_option maxRecDepth 100000 in
theorem c_X2_elect (l : Launch) (G : zG) (A : Nat → Prop) (ad : Nat → Nat) (n N : Nat) (g : Nat → Int32) (r : Nat) (hA : zAp G ad (zX r ad) A) (hnN : n ≤ N) (hN12 : N ≤ 12) (hd3 : 0 < g 3) (τ : zT) (hg : 0 ≤ τ 11 9) : zMv l G A yX2_elect wsX2_elect 1 22 [.ref r] (zNA G ad n N g (zX r ad) τ) (zNA G ad n N g (zX r ad) (zEl n g τ)) := by
  refine z_met (cc := cX2_elect) (maxL := 4) (ret := none) (by decide) rfl (Nat.le_of_ble_eq_true rfl) ?_
  intro p e s m below meth c ls S hr hlk hnm hN hK hl
  have S : CallFix p m c cX2_elect 4 s _ wsX2_elect RX2 := S
  obtain ⟨hx, hb, hml, hown, hts⟩ := id S
  have hS : va_S A s.heap s.heap [] := va_S.rf
  have hl : lv_has ls 4 [(0, .ref r)] := hl
  refine lv_aload_n hx hb dX2_elect_0 rfl (lv_at hl 0 rfl) ?_
  refine z_getR hx hb hts hown in_X2_elect_X2 hK hN (hts _ (List.mem_of_getElem? (i := 1) (by decide +kernel))) dX2_elect_1 ?_
  refine z_getO (v := .ref (ad 2)) hx hb hts hown in_X2_elect_X1 hK hN 1 (by decide) rfl (hts _ (List.mem_of_getElem? (i := 2) (by decide +kernel))) rfl dX2_elect_4 ?_
  refine lv_iconst (v := 0) hx hb dX2_elect_7 (by decide) ?_
  refine z_iald (w := g 3) hx hb hK hN 0 (by decide) (by decide) rfl dX2_elect_8 ?_
  refine lv_aload_n hx hb dX2_elect_9 rfl (lv_at hl 0 rfl) ?_
  refine z_getR hx hb hts hown in_X2_elect_X2 hK hN (hts _ (List.mem_of_getElem? (i := 1) (by decide +kernel))) dX2_elect_10 ?_
  refine z_vi (As := []) (rest := [.int (g 3)]) (P2 := zNA G ad n N g (zX r ad) τ) (r := zPh g τ) S (c_X1_phase l G A ad n N g (zX r ad) hA hnN hN12 hd3 τ ) (cwV 0 hts gX2_elect_X1_phase rfl rfl rfl (by decide +kernel) ⟨Nat.le_of_ble_eq_true rfl, Nat.le_of_ble_eq_true rfl⟩) (z_recN hK hN) hN hK hS (fun _ _ h => h) (fun _ h => h) hl.1 rfl rfl (Nat.le_of_ble_eq_true rfl) dX2_elect_13 ⟨Nat.le_refl _, Nat.le_refl _⟩ (fun H locs hN hS _ => ?_)
  refine lv_isub hx hb dX2_elect_16 ?_
  refine lv_istore_n (lv' := [(1, .int ((g 3) - (zPh g τ))), (0, .ref r)]) hx hb dX2_elect_17 rfl hl (by decide) rfl (fun ls hl => ?_)
  refine lv_iconst (v := 0) hx hb dX2_elect_18 (by decide) ?_
  refine lv_istore_n (lv' := [(2, .int 0), (1, .int ((g 3) - (zPh g τ))), (0, .ref r)]) hx hb dX2_elect_19 rfl hl (by decide) rfl (fun ls hl => ?_)
  have loop1 : ∀ (f1 k : Nat) (H : Heap) (locs : List Loc) (ls : Array Slot), k ≤ n → n < k + f1 → zNA G ad n N g (zX r ad) (zIt (zElS (g 3 - zPh g τ)) k τ) H → va_S A s.heap H locs → lv_has ls 4 [(2, .int (nI k)), (1, .int ((g 3) - (zPh g τ))), (0, .ref r)] → W p l e ({ frames := 1, cells := 0, slots := 0, locals := 22 } : Room) s m ([.ref r] : List Value).toArray below meth c H locs 0 0 (MQ below (zQv G (zNA G ad n N g (zX r ad) (zEl n g τ)) A) ([.ref r] : List Value).toArray s 0 0 A) (F0 m 20 ls []) := by
    intro f1
    induction f1 with
    | zero => intro k H locs ls h1 h2; exact absurd h2 (by omega)
    | succ f1 ih1 =>
      intro k H locs ls hk1 hf1 hN hS hl
      have hgk : 0 ≤ (zIt (zElS (g 3 - zPh g τ)) k τ) 11 9 := zEl_gen _ _ hg k
      generalize hF_τk : zIt (zElS (g 3 - zPh g τ)) k τ = τk at hN hl hgk
      refine lv_iload_n hx hb dX2_elect_20 rfl (lv_at hl 0 rfl) ?_
      refine lv_aload_n hx hb dX2_elect_21 rfl (lv_at hl 2 rfl) ?_
      refine z_getR hx hb hts hown in_X2_elect_X2 hK hN (hts _ (List.mem_of_getElem? (i := 1) (by decide +kernel))) dX2_elect_22 ?_
      refine z_getO (v := .int (nI n)) hx hb hts hown in_X2_elect_X1 hK hN 2 (by decide) rfl (hts _ (List.mem_of_getElem? (i := 3) (by decide +kernel))) rfl dX2_elect_25 ?_
      refine lv_icmp_ge (tgt := 82) hx hb dX2_elect_28 (by decide) (fun c_1 => ?_) (fun c_2 => ?_)
      · skip
        have c_1 := (z_leI (a := n) (b := k) (by omega) (by omega)).mp c_1
        have hkn1 : k = n := by omega
        rw [hkn1] at hF_τk
        subst hF_τk
        exact z_vret hx hb hr hlk hK hS (hN.cast (by first | with_reducible rfl | (simp only [zEl, c_1, eq_self, ne_eq, not_true_eq_false, not_false_eq_true, and_true, true_and, and_self, and_false, false_and, true_or, or_true, false_or, or_false, reduceIte]; done) | (simp [zEl, c_1]; done) | rfl | (simp_all [zEl]; done))) dX2_elect_82
      · skip
        have c_2 := (not_congr (z_leI (a := n) (b := k) (by omega) (by omega))).mp c_2
        refine lv_aload_n hx hb dX2_elect_31 rfl (lv_at hl 2 rfl) ?_
        refine z_getR hx hb hts hown in_X2_elect_X2 hK hN (hts _ (List.mem_of_getElem? (i := 1) (by decide +kernel))) dX2_elect_32 ?_
        refine z_getO (v := .ref (ad 1)) hx hb hts hown in_X2_elect_X1 hK hN 0 (by decide) rfl (hts _ (List.mem_of_getElem? (i := 4) (by decide +kernel))) rfl dX2_elect_35 ?_
        refine lv_iload_n hx hb dX2_elect_38 rfl (lv_at hl 0 rfl) ?_
        refine z_aald (i := k) hx hb hK hN rfl (by omega) dX2_elect_39 ?_
        refine lv_astore_n (lv' := [(3, .ref (ad (3 + k))), (2, .int (nI k)), (1, .int ((g 3) - (zPh g τ))), (0, .ref r)]) hx hb dX2_elect_40 rfl hl (by decide) rfl (fun ls hl => ?_)
        refine lv_aload_n hx hb dX2_elect_41 rfl (lv_at hl 0 rfl) ?_
        refine z_getS (v := .int (zBi (τk 3 k = 1))) hx hb hts hown in_X2_elect_X3 hK hN12 hN (by omega) 3 (by decide) rfl (hts _ (List.mem_of_getElem? (i := 5) (by decide +kernel))) rfl dX2_elect_42 ?_
        refine lv_if_eq (tgt := 76) hx hb dX2_elect_45 (by decide) (fun c_3 => ?_) (fun c_4 => ?_)
        · skip
          have c_3 := zBi_0.mp c_3
          refine lv_iinc (v := nI (k + 1)) (lv' := [(2, .int (nI (k + 1))), (3, .ref (ad (3 + k))), (1, .int ((g 3) - (zPh g τ))), (0, .ref r)]) hx hb dX2_elect_76 hl (k := 1) rfl (nI_1 _) (by decide) rfl (fun ls hl => ?_)
          refine lv_goto (tgt := 20) hx hb dX2_elect_79 (by decide) ?_
          have e_5 : zIt (zElS (g 3 - zPh g τ)) (k + 1) τ = τk := by
            rw [zIt_s, hF_τk]
            first | with_reducible rfl | (simp only [zElS, zBi, c_2, c_3, eq_self, ne_eq, not_true_eq_false, not_false_eq_true, and_true, true_and, and_self, and_false, false_and, true_or, or_true, false_or, or_false, reduceIte]; done) | (simp [zElS, zBi, c_2, c_3]; done) | rfl | (simp_all [zElS, zBi]; done)
          refine ih1 (k + 1) _ _ _ (by omega) (by omega) ?_ hS ?_
          · first | exact hN | (rw [e_5]; exact hN)
          · first | exact lv_sub hl [0, 2, 3] rfl | (rw [e_5]; exact lv_sub hl [0, 2, 3] rfl)
        · skip
          have c_4 := zBi_n0.mp c_4
          refine lv_aload_n hx hb dX2_elect_48 rfl (lv_at hl 0 rfl) ?_
          refine z_getS (v := .int (zBi (τk 4 k = 1))) hx hb hts hown in_X2_elect_X3 hK hN12 hN (by omega) 4 (by decide) rfl (hts _ (List.mem_of_getElem? (i := 6) (by decide +kernel))) rfl dX2_elect_49 ?_
          refine lv_if_eq (tgt := 76) hx hb dX2_elect_52 (by decide) (fun c_6 => ?_) (fun c_7 => ?_)
          · skip
            have c_6 := zBi_0.mp c_6
            refine lv_iinc (v := nI (k + 1)) (lv' := [(2, .int (nI (k + 1))), (3, .ref (ad (3 + k))), (1, .int ((g 3) - (zPh g τ))), (0, .ref r)]) hx hb dX2_elect_76 hl (k := 1) rfl (nI_1 _) (by decide) rfl (fun ls hl => ?_)
            refine lv_goto (tgt := 20) hx hb dX2_elect_79 (by decide) ?_
            have e_8 : zIt (zElS (g 3 - zPh g τ)) (k + 1) τ = τk := by
              rw [zIt_s, hF_τk]
              first | with_reducible rfl | (simp only [zElS, zBi, c_2, c_4, c_6, eq_self, ne_eq, not_true_eq_false, not_false_eq_true, and_true, true_and, and_self, and_false, false_and, true_or, or_true, false_or, or_false, reduceIte]; done) | (simp [zElS, zBi, c_2, c_4, c_6]; done) | rfl | (simp_all [zElS, zBi]; done)
            refine ih1 (k + 1) _ _ _ (by omega) (by omega) ?_ hS ?_
            · first | exact hN | (rw [e_8]; exact hN)
            · first | exact lv_sub hl [0, 2, 3] rfl | (rw [e_8]; exact lv_sub hl [0, 2, 3] rfl)
          · skip
            have c_7 := zBi_n0.mp c_7
            refine lv_aload_n hx hb dX2_elect_55 rfl (lv_at hl 0 rfl) ?_
            refine lv_aload_n hx hb dX2_elect_56 rfl (lv_at hl 3 rfl) ?_
            refine z_vi (As := []) (rest := [.ref (ad (3 + k))]) (P2 := zNA G ad n N g (zX r ad) (zDw τk)) (r := zDr (zNx (τk 11 9))) S (c_X2_draw l G A ad n N g r hA hnN hN12  τk (by assumption)) (cwV 0 hts gX2_elect_X2_draw rfl rfl rfl (by decide +kernel) ⟨Nat.le_of_ble_eq_true rfl, Nat.le_of_ble_eq_true rfl⟩) (z_recR hK hN) hN hK hS (fun _ _ h => h) (fun _ h => h) hl.1 rfl rfl (Nat.le_of_ble_eq_true rfl) dX2_elect_57 ⟨Nat.le_refl _, Nat.le_refl _⟩ (fun H locs hN hS _ => ?_)
            refine lv_iload_n hx hb dX2_elect_60 rfl (lv_at hl 2 rfl) ?_
            refine lv_imul hx hb dX2_elect_61 ?_
            refine lv_sipush (v := 1000) hx hb dX2_elect_62 (by decide) ?_
            refine lv_icmp_ge (tgt := 72) hx hb dX2_elect_65 (by decide) (fun c_9 => ?_) (fun c_10 => ?_)
            · skip
              have c_9 := Int32.not_lt.mpr c_9
              refine lv_iconst (v := 0) hx hb dX2_elect_72 (by decide) ?_
              refine z_putS (v := .int 0) (w := 0) (ty := .boolean) hx hb hts hown in_X2_elect_X3 hK hA hS hN (by omega) 9 10 (by decide) rfl (by decide) (hts _ (List.mem_of_getElem? (i := 7) (by decide +kernel))) (by decide +kernel) (by decide) (by decide) rfl (fun τ => zSet9 τ _ (by decide)) dX2_elect_73 (fun H locs hN hS => ?_)
              refine lv_iinc (v := nI (k + 1)) (lv' := [(2, .int (nI (k + 1))), (3, .ref (ad (3 + k))), (1, .int ((g 3) - (zPh g τ))), (0, .ref r)]) hx hb dX2_elect_76 hl (k := 1) rfl (nI_1 _) (by decide) rfl (fun ls hl => ?_)
              refine lv_goto (tgt := 20) hx hb dX2_elect_79 (by decide) ?_
              have e_11 : zIt (zElS (g 3 - zPh g τ)) (k + 1) τ = zSt (zDw τk) 10 k 0 := by
                rw [zIt_s, hF_τk]
                first | with_reducible rfl | (simp only [zElS, zBi, c_2, c_4, c_7, c_9, eq_self, ne_eq, not_true_eq_false, not_false_eq_true, and_true, true_and, and_self, and_false, false_and, true_or, or_true, false_or, or_false, reduceIte]; done) | (simp [zElS, zBi, c_2, c_4, c_7, c_9]; done) | rfl | (simp_all [zElS, zBi]; done)
              refine ih1 (k + 1) _ _ _ (by omega) (by omega) ?_ hS ?_
              · first | exact hN | (rw [e_11]; exact hN)
              · first | exact lv_sub hl [0, 2, 3] rfl | (rw [e_11]; exact lv_sub hl [0, 2, 3] rfl)
            · skip
              have c_10 := Int32.not_le.mp c_10
              refine lv_iconst (v := 1) hx hb dX2_elect_68 (by decide) ?_
              refine lv_goto (tgt := 73) hx hb dX2_elect_69 (by decide) ?_
              refine z_putS (v := .int 1) (w := 1) (ty := .boolean) hx hb hts hown in_X2_elect_X3 hK hA hS hN (by omega) 9 10 (by decide) rfl (by decide) (hts _ (List.mem_of_getElem? (i := 7) (by decide +kernel))) (by decide +kernel) (by decide) (by decide) rfl (fun τ => zSet9 τ _ (by decide)) dX2_elect_73 (fun H locs hN hS => ?_)
              refine lv_iinc (v := nI (k + 1)) (lv' := [(2, .int (nI (k + 1))), (3, .ref (ad (3 + k))), (1, .int ((g 3) - (zPh g τ))), (0, .ref r)]) hx hb dX2_elect_76 hl (k := 1) rfl (nI_1 _) (by decide) rfl (fun ls hl => ?_)
              refine lv_goto (tgt := 20) hx hb dX2_elect_79 (by decide) ?_
              have e_12 : zIt (zElS (g 3 - zPh g τ)) (k + 1) τ = zSt (zDw τk) 10 k 1 := by
                rw [zIt_s, hF_τk]
                first | with_reducible rfl | (simp only [zElS, zBi, c_2, c_4, c_7, c_10, eq_self, ne_eq, not_true_eq_false, not_false_eq_true, and_true, true_and, and_self, and_false, false_and, true_or, or_true, false_or, or_false, reduceIte]; done) | (simp [zElS, zBi, c_2, c_4, c_7, c_10]; done) | rfl | (simp_all [zElS, zBi]; done)
              refine ih1 (k + 1) _ _ _ (by omega) (by omega) ?_ hS ?_
              · first | exact hN | (rw [e_12]; exact hN)
              · first | exact lv_sub hl [0, 2, 3] rfl | (rw [e_12]; exact lv_sub hl [0, 2, 3] rfl)
  exact loop1 (n + 1) 0 _ _ _ (by omega) (by omega) hN hS (lv_sub hl [0, 1, 2] rfl)

theorem in_X2_announce_X1 : ∀ w ∈ wsX10, w ∈ wsX2_announce := by decide +kernel
theorem in_X2_announce_X2 : ∀ w ∈ wsX20, w ∈ wsX2_announce := by decide +kernel
theorem in_X2_announce_X3 : ∀ w ∈ wsX30, w ∈ wsX2_announce := by decide +kernel
set_option maxHeartbeats 4000000 in
set_option maxRecDepth 100000 in
theorem c_X2_announce (l : Launch) (G : zG) (A : Nat → Prop) (ad : Nat → Nat) (n N : Nat) (g : Nat → Int32) (r : Nat) (hA : zAp G ad (zX r ad) A) (hnN : n ≤ N) (hN12 : N ≤ 12) (τ : zT) : zMv l G A yX2_announce wsX2_announce 1 22 [.ref r] (zNA G ad n N g (zX r ad) τ) (zNA G ad n N g (zX r ad) (zIt (zAnS g) n τ)) := by
  refine z_met (cc := cX2_announce) (maxL := 3) (ret := none) (by decide) rfl (Nat.le_of_ble_eq_true rfl) ?_
  intro p e s m below meth c ls S hr hlk hnm hN hK hl
  have S : CallFix p m c cX2_announce 3 s _ wsX2_announce RX2 := S
  obtain ⟨hx, hb, hml, hown, hts⟩ := id S
  have hS : va_S A s.heap s.heap [] := va_S.rf
  have hl : lv_has ls 3 [(0, .ref r)] := hl
  refine lv_iconst (v := 0) hx hb dX2_announce_0 (by decide) ?_
  refine lv_istore_n (lv' := [(1, .int 0), (0, .ref r)]) hx hb dX2_announce_1 rfl hl (by decide) rfl (fun ls hl => ?_)
  have loop1 : ∀ (f1 k : Nat) (H : Heap) (locs : List Loc) (ls : Array Slot), k ≤ n → n < k + f1 → zNA G ad n N g (zX r ad) (zIt (zAnS g) k τ) H → va_S A s.heap H locs → lv_has ls 3 [(1, .int (nI k)), (0, .ref r)] → W p l e ({ frames := 1, cells := 0, slots := 0, locals := 22 } : Room) s m ([.ref r] : List Value).toArray below meth c H locs 0 0 (MQ below (zQv G (zNA G ad n N g (zX r ad) (zIt (zAnS g) n τ)) A) ([.ref r] : List Value).toArray s 0 0 A) (F0 m 2 ls []) := by
    intro f1
    induction f1 with
    | zero => intro k H locs ls h1 h2; exact absurd h2 (by omega)
    | succ f1 ih1 =>
      intro k H locs ls hk1 hf1 hN hS hl
      generalize hF_τk : zIt (zAnS g) k τ = τk at hN hl 
      refine lv_iload_n hx hb dX2_announce_2 rfl (lv_at hl 0 rfl) ?_
      refine lv_aload_n hx hb dX2_announce_3 rfl (lv_at hl 1 rfl) ?_
      refine z_getR hx hb hts hown in_X2_announce_X2 hK hN (hts _ (List.mem_of_getElem? (i := 1) (by decide +kernel))) dX2_announce_4 ?_
      refine z_getO (v := .int (nI n)) hx hb hts hown in_X2_announce_X1 hK hN 2 (by decide) rfl (hts _ (List.mem_of_getElem? (i := 2) (by decide +kernel))) rfl dX2_announce_7 ?_
      refine lv_icmp_ge (tgt := 86) hx hb dX2_announce_10 (by decide) (fun c_1 => ?_) (fun c_2 => ?_)
      · skip
        have c_1 := (z_leI (a := n) (b := k) (by omega) (by omega)).mp c_1
        have hkn1 : k = n := by omega
        rw [hkn1] at hF_τk
        subst hF_τk
        exact z_vret hx hb hr hlk hK hS (hN.cast (by first | with_reducible rfl | (simp only [c_1, eq_self, ne_eq, not_true_eq_false, not_false_eq_true, and_true, true_and, and_self, and_false, false_and, true_or, or_true, false_or, or_false, reduceIte]; done) | (simp [c_1]; done) | rfl | (simp_all []; done))) dX2_announce_86
      · skip
        have c_2 := (not_congr (z_leI (a := n) (b := k) (by omega) (by omega))).mp c_2
        refine lv_aload_n hx hb dX2_announce_13 rfl (lv_at hl 1 rfl) ?_
        refine z_getR hx hb hts hown in_X2_announce_X2 hK hN (hts _ (List.mem_of_getElem? (i := 1) (by decide +kernel))) dX2_announce_14 ?_
        refine z_getO (v := .ref (ad 1)) hx hb hts hown in_X2_announce_X1 hK hN 0 (by decide) rfl (hts _ (List.mem_of_getElem? (i := 3) (by decide +kernel))) rfl dX2_announce_17 ?_
        refine lv_iload_n hx hb dX2_announce_20 rfl (lv_at hl 0 rfl) ?_
        refine z_aald (i := k) hx hb hK hN rfl (by omega) dX2_announce_21 ?_
        refine lv_astore_n (lv' := [(2, .ref (ad (3 + k))), (1, .int (nI k)), (0, .ref r)]) hx hb dX2_announce_22 rfl hl (by decide) rfl (fun ls hl => ?_)
        refine lv_aload_n hx hb dX2_announce_23 rfl (lv_at hl 0 rfl) ?_
        refine z_getS (v := .int (zBi (τk 10 k = 1))) hx hb hts hown in_X2_announce_X3 hK hN12 hN (by omega) 9 (by decide) rfl (hts _ (List.mem_of_getElem? (i := 4) (by decide +kernel))) rfl dX2_announce_24 ?_
        refine lv_if_eq (tgt := 80) hx hb dX2_announce_27 (by decide) (fun c_3 => ?_) (fun c_4 => ?_)
        · skip
          have c_3 := zBi_0.mp c_3
          refine lv_iinc (v := nI (k + 1)) (lv' := [(1, .int (nI (k + 1))), (2, .ref (ad (3 + k))), (0, .ref r)]) hx hb dX2_announce_80 hl (k := 1) rfl (nI_1 _) (by decide) rfl (fun ls hl => ?_)
          refine lv_goto (tgt := 2) hx hb dX2_announce_83 (by decide) ?_
          have e_5 : zIt (zAnS g) (k + 1) τ = τk := by
            rw [zIt_s, hF_τk]
            first | with_reducible rfl | (simp only [zAnS, zAnY, zPay, zPd, zSt_ap, c_2, c_3, eq_self, ne_eq, not_true_eq_false, not_false_eq_true, and_true, true_and, and_self, and_false, false_and, true_or, or_true, false_or, or_false, reduceIte]; done) | (simp [zAnS, zAnY, zPay, zPd, zSt_ap, c_2, c_3]; done) | rfl | (simp_all [zAnS, zAnY, zPay, zPd, zSt_ap]; done)
          refine ih1 (k + 1) _ _ _ (by omega) (by omega) ?_ hS ?_
          · first | exact hN | (rw [e_5]; exact hN)
          · first | exact lv_sub hl [0, 2] rfl | (rw [e_5]; exact lv_sub hl [0, 2] rfl)
        · skip
          have c_4 := zBi_n0.mp c_4
          refine lv_aload_n hx hb dX2_announce_30 rfl (lv_at hl 2 rfl) ?_
          refine lv_aload_n hx hb dX2_announce_31 rfl (lv_at hl 0 rfl) ?_
          refine lv_aload_n hx hb dX2_announce_32 rfl (lv_at hl 2 rfl) ?_
          refine z_getR hx hb hts hown in_X2_announce_X2 hK hN (hts _ (List.mem_of_getElem? (i := 1) (by decide +kernel))) dX2_announce_33 ?_
          refine z_getO (v := .ref (ad 2)) hx hb hts hown in_X2_announce_X1 hK hN 1 (by decide) rfl (hts _ (List.mem_of_getElem? (i := 5) (by decide +kernel))) rfl dX2_announce_36 ?_
          refine lv_iconst (v := 4) hx hb dX2_announce_39 (by decide) ?_
          refine z_iald (w := g 7) hx hb hK hN 4 (by decide) (by decide) rfl dX2_announce_40 ?_
          refine z_vi (As := [.ref (ad (3 + k)), .int (g 7)]) (rest := []) (P2 := zNA G ad n N g (zX r ad) (zPay τk k (g 7))) (r := zBi (¬ τk 2 k < (g 7))) S (c_X2_pays l G A ad n N g r hA hnN hN12  τk k (by omega) (g 7)) (cwV 2 hts gX2_announce_X2_pays rfl rfl rfl (by decide +kernel) ⟨Nat.le_of_ble_eq_true rfl, Nat.le_of_ble_eq_true rfl⟩) (z_recR hK hN) hN hK hS (fun _ _ h => h) (fun _ h => h) hl.1 rfl rfl (Nat.le_of_ble_eq_true rfl) dX2_announce_41 ⟨Nat.le_refl _, Nat.le_refl _⟩ (fun H locs hN hS _ => ?_)
          refine lv_if_eq (tgt := 80) hx hb dX2_announce_44 (by decide) (fun c_6 => ?_) (fun c_7 => ?_)
          · skip
            have c_6 := zBi_0.mp c_6
            have c_6 := Decidable.of_not_not c_6
            have hN := hN.cast (zPay_n c_6)
            refine lv_iinc (v := nI (k + 1)) (lv' := [(1, .int (nI (k + 1))), (2, .ref (ad (3 + k))), (0, .ref r)]) hx hb dX2_announce_80 hl (k := 1) rfl (nI_1 _) (by decide) rfl (fun ls hl => ?_)
            refine lv_goto (tgt := 2) hx hb dX2_announce_83 (by decide) ?_
            have e_8 : zIt (zAnS g) (k + 1) τ = zDie τk k := by
              rw [zIt_s, hF_τk]
              first | with_reducible rfl | (simp only [zAnS, zAnY, zPay, zPd, zSt_ap, c_2, c_4, c_6, eq_self, ne_eq, not_true_eq_false, not_false_eq_true, and_true, true_and, and_self, and_false, false_and, true_or, or_true, false_or, or_false, reduceIte]; done) | (simp [zAnS, zAnY, zPay, zPd, zSt_ap, c_2, c_4, c_6]; done) | rfl | (simp_all [zAnS, zAnY, zPay, zPd, zSt_ap]; done)
            refine ih1 (k + 1) _ _ _ (by omega) (by omega) ?_ hS ?_
            · first | exact hN | (rw [e_8]; exact hN)
            · first | exact lv_sub hl [0, 2] rfl | (rw [e_8]; exact lv_sub hl [0, 2] rfl)
          · skip
            have c_7 := zBi_n0.mp c_7
            have hN := hN.cast (zPay_y c_7)
            refine lv_aload_n hx hb dX2_announce_47 rfl (lv_at hl 0 rfl) ?_
            refine lv_iload_n hx hb dX2_announce_48 rfl (lv_at hl 1 rfl) ?_
            refine z_putS (v := .int (nI k)) (w := nI k) (ty := .int) hx hb hts hown in_X2_announce_X3 hK hA hS hN (by omega) 7 7 (by decide) rfl (by decide) (hts _ (List.mem_of_getElem? (i := 6) (by decide +kernel))) (by decide +kernel) rfl rfl rfl (fun τ => zSet7 τ _ _) dX2_announce_49 (fun H locs hN hS => ?_)
            refine lv_aload_n hx hb dX2_announce_52 rfl (lv_at hl 0 rfl) ?_
            refine lv_iconst (v := 0) hx hb dX2_announce_53 (by decide) ?_
            refine z_putS (v := .int 0) (w := 0) (ty := .boolean) hx hb hts hown in_X2_announce_X3 hK hA hS hN (by omega) 4 4 (by decide) rfl (by decide) (hts _ (List.mem_of_getElem? (i := 7) (by decide +kernel))) (by decide +kernel) (by decide) (by decide) rfl (fun τ => zSet4 τ _ (by decide)) dX2_announce_54 (fun H locs hN hS => ?_)
            refine lv_aload_n hx hb dX2_announce_57 rfl (lv_at hl 0 rfl) ?_
            refine lv_dup hx hb dX2_announce_58 rfl ?_
            refine z_getS (v := .int ((zPd τk k (g 7)) 5 k)) hx hb hts hown in_X2_announce_X3 hK hN12 hN (by omega) 5 (by decide) rfl (hts _ (List.mem_of_getElem? (i := 8) (by decide +kernel))) rfl dX2_announce_59 ?_
            refine lv_iconst (v := 1) hx hb dX2_announce_62 (by decide) ?_
            refine lv_iadd hx hb dX2_announce_63 ?_
            refine z_putS (v := .int (((zPd τk k (g 7)) 5 k) + 1)) (w := ((zPd τk k (g 7)) 5 k) + 1) (ty := .int) hx hb hts hown in_X2_announce_X3 hK hA hS hN (by omega) 5 5 (by decide) rfl (by decide) (hts _ (List.mem_of_getElem? (i := 8) (by decide +kernel))) (by decide +kernel) rfl rfl rfl (fun τ => zSet5 τ _ _) dX2_announce_64 (fun H locs hN hS => ?_)
            refine lv_aload_n hx hb dX2_announce_67 rfl (lv_at hl 2 rfl) ?_
            refine z_getR hx hb hts hown in_X2_announce_X2 hK hN (hts _ (List.mem_of_getElem? (i := 1) (by decide +kernel))) dX2_announce_68 ?_
            refine lv_dup hx hb dX2_announce_71 rfl ?_
            refine z_getO (v := .int ((zPd τk k (g 7)) 11 11)) hx hb hts hown in_X2_announce_X1 hK hN 7 (by decide) rfl (hts _ (List.mem_of_getElem? (i := 9) (by decide +kernel))) rfl dX2_announce_72 ?_
            refine lv_iconst (v := 1) hx hb dX2_announce_75 (by decide) ?_
            refine lv_iadd hx hb dX2_announce_76 ?_
            refine z_putO (w := ((zPd τk k (g 7)) 11 11) + 1) hx hb hts hown in_X2_announce_X1 hK hA hS hN 7 11 (by decide) rfl (hts _ (List.mem_of_getElem? (i := 9) (by decide +kernel))) (by decide +kernel) rfl (fun τ => zObs7 ad n g τ _) dX2_announce_77 (fun H locs hN hS => ?_)
            refine lv_iinc (v := nI (k + 1)) (lv' := [(1, .int (nI (k + 1))), (2, .ref (ad (3 + k))), (0, .ref r)]) hx hb dX2_announce_80 hl (k := 1) rfl (nI_1 _) (by decide) rfl (fun ls hl => ?_)
            refine lv_goto (tgt := 2) hx hb dX2_announce_83 (by decide) ?_
            have e_9 : zIt (zAnS g) (k + 1) τ = zSt (zSt (zSt (zSt (zPd τk k (g 7)) 7 k (nI k)) 4 k 0) 5 k (((zPd τk k (g 7)) 5 k) + 1)) 11 11 (((zPd τk k (g 7)) 11 11) + 1) := by
              rw [zIt_s, hF_τk]
              first | with_reducible rfl | (simp only [zAnS, zAnY, zPay, zPd, zSt_ap, c_2, c_4, c_7, eq_self, ne_eq, not_true_eq_false, not_false_eq_true, and_true, true_and, and_self, and_false, false_and, true_or, or_true, false_or, or_false, reduceIte]; done) | (simp [zAnS, zAnY, zPay, zPd, zSt_ap, c_2, c_4, c_7]; done) | rfl | (simp_all [zAnS, zAnY, zPay, zPd, zSt_ap]; done)
            refine ih1 (k + 1) _ _ _ (by omega) (by omega) ?_ hS ?_
            · first | exact hN | (rw [e_9]; exact hN)
            · first | exact lv_sub hl [0, 2] rfl | (rw [e_9]; exact lv_sub hl [0, 2] rfl)
  exact loop1 (n + 1) 0 _ _ _ (by omega) (by omega) hN hS (lv_sub hl [0, 1] rfl)

theorem in_X2_nearestHead_X1 : ∀ w ∈ wsX10, w ∈ wsX2_nearestHead := by decide +kernel
theorem in_X2_nearestHead_X2 : ∀ w ∈ wsX20, w ∈ wsX2_nearestHead := by decide +kernel
set_option maxHeartbeats 4000000 in
set_option maxRecDepth 100000 in
theorem c_X2_nearestHead (l : Launch) (G : zG) (A : Nat → Prop) (ad : Nat → Nat) (n N : Nat) (g : Nat → Int32) (r : Nat) (hA : zAp G ad (zX r ad) A) (hnN : n ≤ N) (hN12 : N ≤ 12) (τ : zT) (x y : Int32) : zMi l G A yX2_nearestHead wsX2_nearestHead 1 24 [.ref r, .int x, .int y] (zNA G ad n N g (zX r ad) τ) (zOi (zNe n τ x y)) (zNA G ad n N g (zX r ad) τ) := by
  refine z_met (cc := cX2_nearestHead) (maxL := 7) (ret := (some .int)) (by decide) rfl (Nat.le_of_ble_eq_true rfl) ?_
  intro p e s m below meth c ls S hr hlk hnm hN hK hl
  have S : CallFix p m c cX2_nearestHead 7 s _ wsX2_nearestHead RX2 := S
  obtain ⟨hx, hb, hml, hown, hts⟩ := id S
  have hS : va_S A s.heap s.heap [] := va_S.rf
  have hl : lv_has ls 7 [(0, .ref r), (1, .int x), (2, .int y)] := hl
  refine lv_bipush (v := -9) hx hb dX2_nearestHead_0 (by decide) ?_
  refine lv_istore_n (lv' := [(3, .int (-9)), (0, .ref r), (1, .int x), (2, .int y)]) hx hb dX2_nearestHead_2 rfl hl (by decide) rfl (fun ls hl => ?_)
  refine lv_iconst (v := 0) hx hb dX2_nearestHead_3 (by decide) ?_
  refine lv_istore (lv' := [(4, .int 0), (3, .int (-9)), (0, .ref r), (1, .int x), (2, .int y)]) hx hb dX2_nearestHead_4 hl (by decide) rfl (fun ls hl => ?_)
  refine lv_iconst (v := 0) hx hb dX2_nearestHead_6 (by decide) ?_
  refine lv_istore (lv' := [(5, .int 0), (4, .int 0), (3, .int (-9)), (0, .ref r), (1, .int x), (2, .int y)]) hx hb dX2_nearestHead_7 hl (by decide) rfl (fun ls hl => ?_)
  have loop1 : ∀ (f1 h : Nat) (H : Heap) (locs : List Loc) (ls : Array Slot), h ≤ n → n < h + f1 → zNA G ad n N g (zX r ad) τ H → va_S A s.heap H locs → lv_has ls 7 [(5, .int (nI h)), (4, .int (zOd τ x y (zIt (zNeS τ x y) h none))), (3, .int (zOi (zIt (zNeS τ x y) h none))), (0, .ref r), (1, .int x), (2, .int y)] → W p l e ({ frames := 1, cells := 0, slots := 0, locals := 24 } : Room) s m ([.ref r, .int x, .int y] : List Value).toArray below meth c H locs 0 0 (MQ below (zQi G (zOi (zNe n τ x y)) (zNA G ad n N g (zX r ad) τ) A) ([.ref r, .int x, .int y] : List Value).toArray s 0 0 A) (F0 m 9 ls []) := by
    intro f1
    induction f1 with
    | zero => intro h H locs ls h1 h2; exact absurd h2 (by omega)
    | succ f1 ih1 =>
      intro h H locs ls hk1 hf1 hN hS hl
      generalize hF_o : zIt (zNeS τ x y) h none = o at hN hl 
      rcases o with _ | b
      · skip
        have hl : lv_has ls 7 [(5, .int (nI h)), (4, .int 0), (3, .int (-9)), (0, .ref r), (1, .int x), (2, .int y)] := hl
        refine lv_iload hx hb dX2_nearestHead_9 (lv_at hl 0 rfl) ?_
        refine lv_aload_n hx hb dX2_nearestHead_11 rfl (lv_at hl 3 rfl) ?_
        refine z_getR hx hb hts hown in_X2_nearestHead_X2 hK hN (hts _ (List.mem_of_getElem? (i := 1) (by decide +kernel))) dX2_nearestHead_12 ?_
        refine z_getO (v := .int (nI n)) hx hb hts hown in_X2_nearestHead_X1 hK hN 2 (by decide) rfl (hts _ (List.mem_of_getElem? (i := 2) (by decide +kernel))) rfl dX2_nearestHead_15 ?_
        refine lv_icmp_ge (tgt := 73) hx hb dX2_nearestHead_18 (by decide) (fun c_1 => ?_) (fun c_2 => ?_)
        · skip
          have c_1 := (z_leI (a := n) (b := h) (by omega) (by omega)).mp c_1
          have hkn1 : h = n := by omega
          rw [hkn1] at hF_o
          refine lv_iload_n hx hb dX2_nearestHead_73 rfl (lv_at hl 2 rfl) ?_
          refine z_top (x2 := zOi (zNe n τ x y)) (by first | with_reducible rfl | (simp only [zNe, zOi, c_1, hF_o, eq_self, ne_eq, not_true_eq_false, not_false_eq_true, and_true, true_and, and_self, and_false, false_and, true_or, or_true, false_or, or_false, reduceIte]; done) | (simp [zNe, zOi, c_1, hF_o]; done) | rfl | (simp_all [zNe, zOi]; done)) ?_
          exact z_iret hx hb hr hlk hK hS (hN) dX2_nearestHead_74
        · skip
          have c_2 := (not_congr (z_leI (a := n) (b := h) (by omega) (by omega))).mp c_2
          refine lv_aload_n hx hb dX2_nearestHead_21 rfl (lv_at hl 3 rfl) ?_
          refine lv_iload hx hb dX2_nearestHead_22 (lv_at hl 0 rfl) ?_
          refine z_vi (As := [.int (nI h)]) (rest := []) (P2 := zNA G ad n N g (zX r ad) τ) (r := zBi (τ 3 h = 1 ∧ τ 7 h = nI h)) S (c_X2_isLivingHead l G A ad n N g r hA hnN hN12  τ h (by omega)) (cwV 1 hts gX2_nearestHead_X2_isLivingHead rfl rfl rfl (by decide +kernel) ⟨Nat.le_of_ble_eq_true rfl, Nat.le_of_ble_eq_true rfl⟩) (z_recR hK hN) hN hK hS (fun _ _ h => h) (fun _ h => h) hl.1 rfl rfl (Nat.le_of_ble_eq_true rfl) dX2_nearestHead_24 ⟨Nat.le_refl _, Nat.le_refl _⟩ (fun H locs hN hS _ => ?_)
          refine lv_if_eq (tgt := 67) hx hb dX2_nearestHead_27 (by decide) (fun c_3 => ?_) (fun c_4 => ?_)
          · skip
            have c_3 := zBi_0.mp c_3
            refine lv_iinc (v := nI (h + 1)) (lv' := [(5, .int (nI (h + 1))), (4, .int 0), (3, .int (-9)), (0, .ref r), (1, .int x), (2, .int y)]) hx hb dX2_nearestHead_67 hl (k := 0) rfl (nI_1 _) (by decide) rfl (fun ls hl => ?_)
            refine lv_goto (tgt := 9) hx hb dX2_nearestHead_70 (by decide) ?_
            have e_5 : zIt (zNeS τ x y) (h + 1) none = none := by
              rw [zIt_s, hF_o]
              first | with_reducible rfl | (simp only [zNeS, zOd, c_2, c_3, eq_self, ne_eq, not_true_eq_false, not_false_eq_true, and_true, true_and, and_self, and_false, false_and, true_or, or_true, false_or, or_false, reduceIte]; done) | (simp [zNeS, zOd, c_2, c_3]; done) | rfl | (simp_all [zNeS, zOd]; done)
            refine ih1 (h + 1) _ _ _ (by omega) (by omega) ?_ hS ?_
            · first | exact hN | (rw [e_5]; exact hN)
            · first | exact lv_sub hl [0, 1, 2, 3, 4, 5] rfl | (rw [e_5]; exact lv_sub hl [0, 1, 2, 3, 4, 5] rfl)
          · skip
            have c_4 := zBi_n0.mp c_4
            refine lv_aload_n hx hb dX2_nearestHead_30 rfl (lv_at hl 3 rfl) ?_
            refine z_getR hx hb hts hown in_X2_nearestHead_X2 hK hN (hts _ (List.mem_of_getElem? (i := 1) (by decide +kernel))) dX2_nearestHead_31 ?_
            refine z_getO (v := .ref (ad 1)) hx hb hts hown in_X2_nearestHead_X1 hK hN 0 (by decide) rfl (hts _ (List.mem_of_getElem? (i := 3) (by decide +kernel))) rfl dX2_nearestHead_34 ?_
            refine lv_iload hx hb dX2_nearestHead_37 (lv_at hl 0 rfl) ?_
            refine z_aald (i := h) hx hb hK hN rfl (by omega) dX2_nearestHead_39 ?_
            refine lv_iload_n hx hb dX2_nearestHead_40 rfl (lv_at hl 4 rfl) ?_
            refine lv_iload_n hx hb dX2_nearestHead_41 rfl (lv_at hl 5 rfl) ?_
            refine z_vi (As := [.int x, .int y]) (rest := []) (P2 := zNA G ad n N g (zX r ad) τ) (r := zDi (τ 0 h) (τ 1 h) x y) S (c_X3_distanceTo l G A ad n N g (zX r ad) hA hnN hN12  τ h (by omega) x y) (cwV 2 hts gX2_nearestHead_X3_distanceTo rfl rfl rfl (by decide +kernel) ⟨Nat.le_of_ble_eq_true rfl, Nat.le_of_ble_eq_true rfl⟩) (z_recS hK hN (by omega)) hN hK hS (fun _ _ h => h) (fun _ h => h) hl.1 rfl rfl (Nat.le_of_ble_eq_true rfl) dX2_nearestHead_42 ⟨Nat.le_refl _, Nat.le_refl _⟩ (fun H locs hN hS _ => ?_)
            refine lv_istore (lv' := [(6, .int (zDi (τ 0 h) (τ 1 h) x y)), (5, .int (nI h)), (4, .int 0), (3, .int (-9)), (0, .ref r), (1, .int x), (2, .int y)]) hx hb dX2_nearestHead_45 hl (by decide) rfl (fun ls hl => ?_)
            refine lv_iload_n hx hb dX2_nearestHead_47 rfl (lv_at hl 3 rfl) ?_
            refine lv_bipush (v := -9) hx hb dX2_nearestHead_48 (by decide) ?_
            refine lv_icmp_eq (tgt := 60) hx hb dX2_nearestHead_50 (by decide) (fun _ => ?_) (fun q => absurd (by decide) q)
            refine lv_iload hx hb dX2_nearestHead_60 (lv_at hl 1 rfl) ?_
            refine lv_istore_n (lv' := [(3, .int (nI h)), (6, .int (zDi (τ 0 h) (τ 1 h) x y)), (5, .int (nI h)), (4, .int 0), (0, .ref r), (1, .int x), (2, .int y)]) hx hb dX2_nearestHead_62 rfl hl (by decide) rfl (fun ls hl => ?_)
            refine lv_iload hx hb dX2_nearestHead_63 (lv_at hl 1 rfl) ?_
            refine lv_istore (lv' := [(4, .int (zDi (τ 0 h) (τ 1 h) x y)), (3, .int (nI h)), (6, .int (zDi (τ 0 h) (τ 1 h) x y)), (5, .int (nI h)), (0, .ref r), (1, .int x), (2, .int y)]) hx hb dX2_nearestHead_65 hl (by decide) rfl (fun ls hl => ?_)
            refine lv_iinc (v := nI (h + 1)) (lv' := [(5, .int (nI (h + 1))), (4, .int (zDi (τ 0 h) (τ 1 h) x y)), (3, .int (nI h)), (6, .int (zDi (τ 0 h) (τ 1 h) x y)), (0, .ref r), (1, .int x), (2, .int y)]) hx hb dX2_nearestHead_67 hl (k := 3) rfl (nI_1 _) (by decide) rfl (fun ls hl => ?_)
            refine lv_goto (tgt := 9) hx hb dX2_nearestHead_70 (by decide) ?_
            have e_6 : zIt (zNeS τ x y) (h + 1) none = some h := by
              rw [zIt_s, hF_o]
              first | with_reducible rfl | (simp only [zNeS, zOd, c_2, c_4, eq_self, ne_eq, not_true_eq_false, not_false_eq_true, and_true, true_and, and_self, and_false, false_and, true_or, or_true, false_or, or_false, reduceIte]; done) | (simp [zNeS, zOd, c_2, c_4]; done) | rfl | (simp_all [zNeS, zOd]; done)
            refine ih1 (h + 1) _ _ _ (by omega) (by omega) ?_ hS ?_
            · first | exact hN | (rw [e_6]; exact hN)
            · first | exact lv_sub hl [0, 1, 2, 4, 5, 6] rfl | (rw [e_6]; exact lv_sub hl [0, 1, 2, 4, 5, 6] rfl)
      · skip
        have hb1 : b < h := zNe_lt n τ x y h b hF_o
        have hb2 : b < n := by omega
        have hl : lv_has ls 7 [(5, .int (nI h)), (4, .int (zDi (τ 0 b) (τ 1 b) x y)), (3, .int (nI b)), (0, .ref r), (1, .int x), (2, .int y)] := hl
        refine lv_iload hx hb dX2_nearestHead_9 (lv_at hl 0 rfl) ?_
        refine lv_aload_n hx hb dX2_nearestHead_11 rfl (lv_at hl 3 rfl) ?_
        refine z_getR hx hb hts hown in_X2_nearestHead_X2 hK hN (hts _ (List.mem_of_getElem? (i := 1) (by decide +kernel))) dX2_nearestHead_12 ?_
        refine z_getO (v := .int (nI n)) hx hb hts hown in_X2_nearestHead_X1 hK hN 2 (by decide) rfl (hts _ (List.mem_of_getElem? (i := 2) (by decide +kernel))) rfl dX2_nearestHead_15 ?_
        refine lv_icmp_ge (tgt := 73) hx hb dX2_nearestHead_18 (by decide) (fun c_7 => ?_) (fun c_8 => ?_)
        · skip
          have c_7 := (z_leI (a := n) (b := h) (by omega) (by omega)).mp c_7
          have hkn1 : h = n := by omega
          rw [hkn1] at hF_o
          refine lv_iload_n hx hb dX2_nearestHead_73 rfl (lv_at hl 2 rfl) ?_
          refine z_top (x2 := zOi (zNe n τ x y)) (by first | with_reducible rfl | (simp only [zNe, zOi, c_7, hF_o, eq_self, ne_eq, not_true_eq_false, not_false_eq_true, and_true, true_and, and_self, and_false, false_and, true_or, or_true, false_or, or_false, reduceIte]; done) | (simp [zNe, zOi, c_7, hF_o]; done) | rfl | (simp_all [zNe, zOi]; done)) ?_
          exact z_iret hx hb hr hlk hK hS (hN) dX2_nearestHead_74
        · skip
          have c_8 := (not_congr (z_leI (a := n) (b := h) (by omega) (by omega))).mp c_8
          refine lv_aload_n hx hb dX2_nearestHead_21 rfl (lv_at hl 3 rfl) ?_
          refine lv_iload hx hb dX2_nearestHead_22 (lv_at hl 0 rfl) ?_
          refine z_vi (As := [.int (nI h)]) (rest := []) (P2 := zNA G ad n N g (zX r ad) τ) (r := zBi (τ 3 h = 1 ∧ τ 7 h = nI h)) S (c_X2_isLivingHead l G A ad n N g r hA hnN hN12  τ h (by omega)) (cwV 1 hts gX2_nearestHead_X2_isLivingHead rfl rfl rfl (by decide +kernel) ⟨Nat.le_of_ble_eq_true rfl, Nat.le_of_ble_eq_true rfl⟩) (z_recR hK hN) hN hK hS (fun _ _ h => h) (fun _ h => h) hl.1 rfl rfl (Nat.le_of_ble_eq_true rfl) dX2_nearestHead_24 ⟨Nat.le_refl _, Nat.le_refl _⟩ (fun H locs hN hS _ => ?_)
          refine lv_if_eq (tgt := 67) hx hb dX2_nearestHead_27 (by decide) (fun c_9 => ?_) (fun c_10 => ?_)
          · skip
            have c_9 := zBi_0.mp c_9
            refine lv_iinc (v := nI (h + 1)) (lv' := [(5, .int (nI (h + 1))), (4, .int (zDi (τ 0 b) (τ 1 b) x y)), (3, .int (nI b)), (0, .ref r), (1, .int x), (2, .int y)]) hx hb dX2_nearestHead_67 hl (k := 0) rfl (nI_1 _) (by decide) rfl (fun ls hl => ?_)
            refine lv_goto (tgt := 9) hx hb dX2_nearestHead_70 (by decide) ?_
            have e_11 : zIt (zNeS τ x y) (h + 1) none = some b := by
              rw [zIt_s, hF_o]
              first | with_reducible rfl | (simp only [zNeS, zOd, c_8, c_9, eq_self, ne_eq, not_true_eq_false, not_false_eq_true, and_true, true_and, and_self, and_false, false_and, true_or, or_true, false_or, or_false, reduceIte]; done) | (simp [zNeS, zOd, c_8, c_9]; done) | rfl | (simp_all [zNeS, zOd]; done)
            refine ih1 (h + 1) _ _ _ (by omega) (by omega) ?_ hS ?_
            · first | exact hN | (rw [e_11]; exact hN)
            · first | exact lv_sub hl [0, 1, 2, 3, 4, 5] rfl | (rw [e_11]; exact lv_sub hl [0, 1, 2, 3, 4, 5] rfl)
          · skip
            have c_10 := zBi_n0.mp c_10
            refine lv_aload_n hx hb dX2_nearestHead_30 rfl (lv_at hl 3 rfl) ?_
            refine z_getR hx hb hts hown in_X2_nearestHead_X2 hK hN (hts _ (List.mem_of_getElem? (i := 1) (by decide +kernel))) dX2_nearestHead_31 ?_
            refine z_getO (v := .ref (ad 1)) hx hb hts hown in_X2_nearestHead_X1 hK hN 0 (by decide) rfl (hts _ (List.mem_of_getElem? (i := 3) (by decide +kernel))) rfl dX2_nearestHead_34 ?_
            refine lv_iload hx hb dX2_nearestHead_37 (lv_at hl 0 rfl) ?_
            refine z_aald (i := h) hx hb hK hN rfl (by omega) dX2_nearestHead_39 ?_
            refine lv_iload_n hx hb dX2_nearestHead_40 rfl (lv_at hl 4 rfl) ?_
            refine lv_iload_n hx hb dX2_nearestHead_41 rfl (lv_at hl 5 rfl) ?_
            refine z_vi (As := [.int x, .int y]) (rest := []) (P2 := zNA G ad n N g (zX r ad) τ) (r := zDi (τ 0 h) (τ 1 h) x y) S (c_X3_distanceTo l G A ad n N g (zX r ad) hA hnN hN12  τ h (by omega) x y) (cwV 2 hts gX2_nearestHead_X3_distanceTo rfl rfl rfl (by decide +kernel) ⟨Nat.le_of_ble_eq_true rfl, Nat.le_of_ble_eq_true rfl⟩) (z_recS hK hN (by omega)) hN hK hS (fun _ _ h => h) (fun _ h => h) hl.1 rfl rfl (Nat.le_of_ble_eq_true rfl) dX2_nearestHead_42 ⟨Nat.le_refl _, Nat.le_refl _⟩ (fun H locs hN hS _ => ?_)
            refine lv_istore (lv' := [(6, .int (zDi (τ 0 h) (τ 1 h) x y)), (5, .int (nI h)), (4, .int (zDi (τ 0 b) (τ 1 b) x y)), (3, .int (nI b)), (0, .ref r), (1, .int x), (2, .int y)]) hx hb dX2_nearestHead_45 hl (by decide) rfl (fun ls hl => ?_)
            refine lv_iload_n hx hb dX2_nearestHead_47 rfl (lv_at hl 3 rfl) ?_
            refine lv_bipush (v := -9) hx hb dX2_nearestHead_48 (by decide) ?_
            refine lv_icmp_eq (tgt := 60) hx hb dX2_nearestHead_50 (by decide) (fun q => absurd q (zOi_lt (by omega))) (fun _ => ?_)
            refine lv_iload hx hb dX2_nearestHead_53 (lv_at hl 0 rfl) ?_
            refine lv_iload hx hb dX2_nearestHead_55 (lv_at hl 2 rfl) ?_
            refine lv_icmp_ge (tgt := 67) hx hb dX2_nearestHead_57 (by decide) (fun c_12 => ?_) (fun c_13 => ?_)
            · skip
              have c_12 := Int32.not_lt.mpr c_12
              refine lv_iinc (v := nI (h + 1)) (lv' := [(5, .int (nI (h + 1))), (6, .int (zDi (τ 0 h) (τ 1 h) x y)), (4, .int (zDi (τ 0 b) (τ 1 b) x y)), (3, .int (nI b)), (0, .ref r), (1, .int x), (2, .int y)]) hx hb dX2_nearestHead_67 hl (k := 1) rfl (nI_1 _) (by decide) rfl (fun ls hl => ?_)
              refine lv_goto (tgt := 9) hx hb dX2_nearestHead_70 (by decide) ?_
              have e_14 : zIt (zNeS τ x y) (h + 1) none = some b := by
                rw [zIt_s, hF_o]
                first | with_reducible rfl | (simp only [zNeS, zOd, c_8, c_10, c_12, eq_self, ne_eq, not_true_eq_false, not_false_eq_true, and_true, true_and, and_self, and_false, false_and, true_or, or_true, false_or, or_false, reduceIte]; done) | (simp [zNeS, zOd, c_8, c_10, c_12]; done) | rfl | (simp_all [zNeS, zOd]; done)
              refine ih1 (h + 1) _ _ _ (by omega) (by omega) ?_ hS ?_
              · first | exact hN | (rw [e_14]; exact hN)
              · first | exact lv_sub hl [0, 2, 3, 4, 5, 6] rfl | (rw [e_14]; exact lv_sub hl [0, 2, 3, 4, 5, 6] rfl)
            · skip
              have c_13 := Int32.not_le.mp c_13
              refine lv_iload hx hb dX2_nearestHead_60 (lv_at hl 1 rfl) ?_
              refine lv_istore_n (lv' := [(3, .int (nI h)), (6, .int (zDi (τ 0 h) (τ 1 h) x y)), (5, .int (nI h)), (4, .int (zDi (τ 0 b) (τ 1 b) x y)), (0, .ref r), (1, .int x), (2, .int y)]) hx hb dX2_nearestHead_62 rfl hl (by decide) rfl (fun ls hl => ?_)
              refine lv_iload hx hb dX2_nearestHead_63 (lv_at hl 1 rfl) ?_
              refine lv_istore (lv' := [(4, .int (zDi (τ 0 h) (τ 1 h) x y)), (3, .int (nI h)), (6, .int (zDi (τ 0 h) (τ 1 h) x y)), (5, .int (nI h)), (0, .ref r), (1, .int x), (2, .int y)]) hx hb dX2_nearestHead_65 hl (by decide) rfl (fun ls hl => ?_)
              refine lv_iinc (v := nI (h + 1)) (lv' := [(5, .int (nI (h + 1))), (4, .int (zDi (τ 0 h) (τ 1 h) x y)), (3, .int (nI h)), (6, .int (zDi (τ 0 h) (τ 1 h) x y)), (0, .ref r), (1, .int x), (2, .int y)]) hx hb dX2_nearestHead_67 hl (k := 3) rfl (nI_1 _) (by decide) rfl (fun ls hl => ?_)
              refine lv_goto (tgt := 9) hx hb dX2_nearestHead_70 (by decide) ?_
              have e_15 : zIt (zNeS τ x y) (h + 1) none = some h := by
                rw [zIt_s, hF_o]
                first | with_reducible rfl | (simp only [zNeS, zOd, c_8, c_10, c_13, eq_self, ne_eq, not_true_eq_false, not_false_eq_true, and_true, true_and, and_self, and_false, false_and, true_or, or_true, false_or, or_false, reduceIte]; done) | (simp [zNeS, zOd, c_8, c_10, c_13]; done) | rfl | (simp_all [zNeS, zOd]; done)
              refine ih1 (h + 1) _ _ _ (by omega) (by omega) ?_ hS ?_
              · first | exact hN | (rw [e_15]; exact hN)
              · first | exact lv_sub hl [0, 1, 2, 4, 5, 6] rfl | (rw [e_15]; exact lv_sub hl [0, 1, 2, 4, 5, 6] rfl)
  exact loop1 (n + 1) 0 _ _ _ (by omega) (by omega) hN hS (lv_sub hl [0, 1, 2, 3, 4, 5] rfl)

theorem in_X2_giveSlots_X1 : ∀ w ∈ wsX10, w ∈ wsX2_giveSlots := by decide +kernel
theorem in_X2_giveSlots_X2 : ∀ w ∈ wsX20, w ∈ wsX2_giveSlots := by decide +kernel
theorem in_X2_giveSlots_X3 : ∀ w ∈ wsX30, w ∈ wsX2_giveSlots := by decide +kernel
set_option maxHeartbeats 4000000 in
set_option maxRecDepth 100000 in
theorem c_X2_giveSlots (l : Launch) (G : zG) (A : Nat → Prop) (ad : Nat → Nat) (n N : Nat) (g : Nat → Int32) (r : Nat) (hA : zAp G ad (zX r ad) A) (hnN : n ≤ N) (hN12 : N ≤ 12) (τ : zT) (h : Nat) (hh : h < n) : zMv l G A yX2_giveSlots wsX2_giveSlots 1 22 [.ref r, .int (nI h)] (zNA G ad n N g (zX r ad) τ) (zNA G ad n N g (zX r ad) (zGs n h τ)) := by
  refine z_met (cc := cX2_giveSlots) (maxL := 4) (ret := none) (by decide) rfl (Nat.le_of_ble_eq_true rfl) ?_
  intro p e s m below meth c ls S hr hlk hnm hN hK hl
  have S : CallFix p m c cX2_giveSlots 4 s _ wsX2_giveSlots RX2 := S
  obtain ⟨hx, hb, hml, hown, hts⟩ := id S
  have hS : va_S A s.heap s.heap [] := va_S.rf
  have hl : lv_has ls 4 [(0, .ref r), (1, .int (nI h))] := hl
  refine lv_iconst (v := 0) hx hb dX2_giveSlots_0 (by decide) ?_
  refine lv_istore_n (lv' := [(2, .int 0), (0, .ref r), (1, .int (nI h))]) hx hb dX2_giveSlots_1 rfl hl (by decide) rfl (fun ls hl => ?_)
  refine lv_iconst (v := 0) hx hb dX2_giveSlots_2 (by decide) ?_
  refine lv_istore_n (lv' := [(3, .int 0), (2, .int 0), (0, .ref r), (1, .int (nI h))]) hx hb dX2_giveSlots_3 rfl hl (by decide) rfl (fun ls hl => ?_)
  have loop1 : ∀ (f1 k : Nat) (H : Heap) (locs : List Loc) (ls : Array Slot), k ≤ n → n < k + f1 → zNA G ad n N g (zX r ad) (zIt (zGsS h) k (0, τ)).2 H → va_S A s.heap H locs → lv_has ls 4 [(3, .int (nI k)), (2, .int ((zIt (zGsS h) k (0, τ)).1)), (0, .ref r), (1, .int (nI h))] → W p l e ({ frames := 1, cells := 0, slots := 0, locals := 22 } : Room) s m ([.ref r, .int (nI h)] : List Value).toArray below meth c H locs 0 0 (MQ below (zQv G (zNA G ad n N g (zX r ad) (zGs n h τ)) A) ([.ref r, .int (nI h)] : List Value).toArray s 0 0 A) (F0 m 4 ls []) := by
    intro f1
    induction f1 with
    | zero => intro k H locs ls h1 h2; exact absurd h2 (by omega)
    | succ f1 ih1 =>
      intro k H locs ls hk1 hf1 hN hS hl
      generalize hF_u : zIt (zGsS h) k (0, τ) = u at hN hl 
      refine lv_iload_n hx hb dX2_giveSlots_4 rfl (lv_at hl 0 rfl) ?_
      refine lv_aload_n hx hb dX2_giveSlots_5 rfl (lv_at hl 2 rfl) ?_
      refine z_getR hx hb hts hown in_X2_giveSlots_X2 hK hN (hts _ (List.mem_of_getElem? (i := 1) (by decide +kernel))) dX2_giveSlots_6 ?_
      refine z_getO (v := .int (nI n)) hx hb hts hown in_X2_giveSlots_X1 hK hN 2 (by decide) rfl (hts _ (List.mem_of_getElem? (i := 2) (by decide +kernel))) rfl dX2_giveSlots_9 ?_
      refine lv_icmp_ge (tgt := 46) hx hb dX2_giveSlots_12 (by decide) (fun c_1 => ?_) (fun c_2 => ?_)
      · skip
        have c_1 := (z_leI (a := n) (b := k) (by omega) (by omega)).mp c_1
        have hkn1 : k = n := by omega
        rw [hkn1] at hF_u
        subst hF_u
        exact z_vret hx hb hr hlk hK hS (hN.cast (by first | with_reducible rfl | (simp only [zGs, c_1, eq_self, ne_eq, not_true_eq_false, not_false_eq_true, and_true, true_and, and_self, and_false, false_and, true_or, or_true, false_or, or_false, reduceIte]; done) | (simp [zGs, c_1]; done) | rfl | (simp_all [zGs]; done))) dX2_giveSlots_46
      · skip
        have c_2 := (not_congr (z_leI (a := n) (b := k) (by omega) (by omega))).mp c_2
        refine lv_aload_n hx hb dX2_giveSlots_15 rfl (lv_at hl 2 rfl) ?_
        refine lv_iload_n hx hb dX2_giveSlots_16 rfl (lv_at hl 0 rfl) ?_
        refine lv_iload_n hx hb dX2_giveSlots_17 rfl (lv_at hl 3 rfl) ?_
        refine z_vi (As := [.int (nI k), .int (nI h)]) (rest := []) (P2 := zNA G ad n N g (zX r ad) u.2) (r := zBi (k ≠ h ∧ u.2 7 k = nI h)) S (c_X2_hasJoined l G A ad n N g r hA hnN hN12  u.2 k h (by omega) (by omega)) (cwV 2 hts gX2_giveSlots_X2_hasJoined rfl rfl rfl (by decide +kernel) ⟨Nat.le_of_ble_eq_true rfl, Nat.le_of_ble_eq_true rfl⟩) (z_recR hK hN) hN hK hS (fun _ _ h => h) (fun _ h => h) hl.1 rfl rfl (Nat.le_of_ble_eq_true rfl) dX2_giveSlots_18 ⟨Nat.le_refl _, Nat.le_refl _⟩ (fun H locs hN hS _ => ?_)
        refine lv_if_eq (tgt := 40) hx hb dX2_giveSlots_21 (by decide) (fun c_3 => ?_) (fun c_4 => ?_)
        · skip
          have c_3 := zBi_0.mp c_3
          refine lv_iinc (v := nI (k + 1)) (lv' := [(3, .int (nI (k + 1))), (2, .int u.1), (0, .ref r), (1, .int (nI h))]) hx hb dX2_giveSlots_40 hl (k := 0) rfl (nI_1 _) (by decide) rfl (fun ls hl => ?_)
          refine lv_goto (tgt := 4) hx hb dX2_giveSlots_43 (by decide) ?_
          have e_5 : zIt (zGsS h) (k + 1) (0, τ) = (u.1, u.2) := by
            rw [zIt_s, hF_u]
            first | with_reducible rfl | (simp only [zGsS, c_2, c_3, eq_self, ne_eq, not_true_eq_false, not_false_eq_true, and_true, true_and, and_self, and_false, false_and, true_or, or_true, false_or, or_false, reduceIte]; done) | (simp [zGsS, c_2, c_3]; done) | rfl | (simp_all [zGsS]; done)
          refine ih1 (k + 1) _ _ _ (by omega) (by omega) ?_ hS ?_
          · first | exact hN | (rw [e_5]; exact hN)
          · first | exact lv_sub hl [0, 1, 2, 3] rfl | (rw [e_5]; exact lv_sub hl [0, 1, 2, 3] rfl)
        · skip
          have c_4 := zBi_n0.mp c_4
          refine lv_aload_n hx hb dX2_giveSlots_24 rfl (lv_at hl 2 rfl) ?_
          refine z_getR hx hb hts hown in_X2_giveSlots_X2 hK hN (hts _ (List.mem_of_getElem? (i := 1) (by decide +kernel))) dX2_giveSlots_25 ?_
          refine z_getO (v := .ref (ad 1)) hx hb hts hown in_X2_giveSlots_X1 hK hN 0 (by decide) rfl (hts _ (List.mem_of_getElem? (i := 3) (by decide +kernel))) rfl dX2_giveSlots_28 ?_
          refine lv_iload_n hx hb dX2_giveSlots_31 rfl (lv_at hl 0 rfl) ?_
          refine z_aald (i := k) hx hb hK hN rfl (by omega) dX2_giveSlots_32 ?_
          refine lv_iload_n hx hb dX2_giveSlots_33 rfl (lv_at hl 1 rfl) ?_
          refine z_putS (v := .int u.1) (w := u.1) (ty := .int) hx hb hts hown in_X2_giveSlots_X3 hK hA hS hN (by omega) 8 8 (by decide) rfl (by decide) (hts _ (List.mem_of_getElem? (i := 4) (by decide +kernel))) (by decide +kernel) rfl rfl rfl (fun τ => zSet8 τ _ _) dX2_giveSlots_34 (fun H locs hN hS => ?_)
          refine lv_iinc (v := u.1 + 1) (lv' := [(2, .int (u.1 + 1)), (3, .int (nI k)), (0, .ref r), (1, .int (nI h))]) hx hb dX2_giveSlots_37 hl (k := 1) rfl rfl (by decide) rfl (fun ls hl => ?_)
          refine lv_iinc (v := nI (k + 1)) (lv' := [(3, .int (nI (k + 1))), (2, .int (u.1 + 1)), (0, .ref r), (1, .int (nI h))]) hx hb dX2_giveSlots_40 hl (k := 1) rfl (nI_1 _) (by decide) rfl (fun ls hl => ?_)
          refine lv_goto (tgt := 4) hx hb dX2_giveSlots_43 (by decide) ?_
          have e_6 : zIt (zGsS h) (k + 1) (0, τ) = (u.1 + 1, zSt u.2 8 k u.1) := by
            rw [zIt_s, hF_u]
            first | with_reducible rfl | (simp only [zGsS, c_2, c_4, eq_self, ne_eq, not_true_eq_false, not_false_eq_true, and_true, true_and, and_self, and_false, false_and, true_or, or_true, false_or, or_false, reduceIte]; done) | (simp [zGsS, c_2, c_4]; done) | rfl | (simp_all [zGsS]; done)
          refine ih1 (k + 1) _ _ _ (by omega) (by omega) ?_ hS ?_
          · first | exact hN | (rw [e_6]; exact hN)
          · first | exact lv_sub hl [0, 1, 2, 3] rfl | (rw [e_6]; exact lv_sub hl [0, 1, 2, 3] rfl)
  exact loop1 (n + 1) 0 _ _ _ (by omega) (by omega) hN hS (lv_sub hl [0, 1, 2, 3] rfl)

theorem in_X2_join_X1 : ∀ w ∈ wsX10, w ∈ wsX2_join := by decide +kernel
theorem in_X2_join_X2 : ∀ w ∈ wsX20, w ∈ wsX2_join := by decide +kernel
theorem in_X2_join_X3 : ∀ w ∈ wsX30, w ∈ wsX2_join := by decide +kernel
set_option maxHeartbeats 4000000 in
set_option maxRecDepth 100000 in
theorem c_X2_join (l : Launch) (G : zG) (A : Nat → Prop) (ad : Nat → Nat) (n N : Nat) (g : Nat → Int32) (r : Nat) (hA : zAp G ad (zX r ad) A) (hnN : n ≤ N) (hN12 : N ≤ 12) (τ : zT) : zMv l G A yX2_join wsX2_join 2 50 [.ref r] (zNA G ad n N g (zX r ad) τ) (zNA G ad n N g (zX r ad) (zJo n τ)) := by
  refine z_met (cc := cX2_join) (maxL := 3) (ret := none) (by decide) rfl (Nat.le_of_ble_eq_true rfl) ?_
  intro p e s m below meth c ls S hr hlk hnm hN hK hl
  have S : CallFix p m c cX2_join 3 s _ wsX2_join RX2 := S
  obtain ⟨hx, hb, hml, hown, hts⟩ := id S
  have hS : va_S A s.heap s.heap [] := va_S.rf
  have hl : lv_has ls 3 [(0, .ref r)] := hl
  refine lv_iconst (v := 0) hx hb dX2_join_0 (by decide) ?_
  refine lv_istore_n (lv' := [(1, .int 0), (0, .ref r)]) hx hb dX2_join_1 rfl hl (by decide) rfl (fun ls hl => ?_)
  have loop1 : ∀ (f1 k : Nat) (H : Heap) (locs : List Loc) (ls : Array Slot), k ≤ n → n < k + f1 → zNA G ad n N g (zX r ad) (zIt (zJ1S n) k τ) H → va_S A s.heap H locs → lv_has ls 3 [(1, .int (nI k)), (0, .ref r)] → W p l e ({ frames := 2, cells := 0, slots := 0, locals := 50 } : Room) s m ([.ref r] : List Value).toArray below meth c H locs 0 0 (MQ below (zQv G (zNA G ad n N g (zX r ad) (zJo n τ)) A) ([.ref r] : List Value).toArray s 0 0 A) (F0 m 2 ls []) := by
    intro f1
    induction f1 with
    | zero => intro k H locs ls h1 h2; exact absurd h2 (by omega)
    | succ f1 ih1 =>
      intro k H locs ls hk1 hf1 hN hS hl
      generalize hF_τk : zIt (zJ1S n) k τ = τk at hN hl 
      refine lv_iload_n hx hb dX2_join_2 rfl (lv_at hl 0 rfl) ?_
      refine lv_aload_n hx hb dX2_join_3 rfl (lv_at hl 1 rfl) ?_
      refine z_getR hx hb hts hown in_X2_join_X2 hK hN (hts _ (List.mem_of_getElem? (i := 1) (by decide +kernel))) dX2_join_4 ?_
      refine z_getO (v := .int (nI n)) hx hb hts hown in_X2_join_X1 hK hN 2 (by decide) rfl (hts _ (List.mem_of_getElem? (i := 2) (by decide +kernel))) rfl dX2_join_7 ?_
      refine lv_icmp_ge (tgt := 60) hx hb dX2_join_10 (by decide) (fun c_1 => ?_) (fun c_2 => ?_)
      · skip
        have c_1 := (z_leI (a := n) (b := k) (by omega) (by omega)).mp c_1
        have hkn1 : k = n := by omega
        rw [hkn1] at hF_τk
        subst hF_τk
        refine lv_iconst (v := 0) hx hb dX2_join_60 (by decide) ?_
        refine lv_istore_n (lv' := [(1, .int 0), (0, .ref r)]) hx hb dX2_join_61 rfl hl (by decide) rfl (fun ls hl => ?_)
        have loop2 : ∀ (f2 h : Nat) (H : Heap) (locs : List Loc) (ls : Array Slot), h ≤ n → n < h + f2 → zNA G ad n N g (zX r ad) (zIt (zJ2S n) h (zIt (zJ1S n) n τ)) H → va_S A s.heap H locs → lv_has ls 3 [(1, .int (nI h)), (0, .ref r)] → W p l e ({ frames := 2, cells := 0, slots := 0, locals := 50 } : Room) s m ([.ref r] : List Value).toArray below meth c H locs 0 0 (MQ below (zQv G (zNA G ad n N g (zX r ad) (zJo n τ)) A) ([.ref r] : List Value).toArray s 0 0 A) (F0 m 62 ls []) := by
          intro f2
          induction f2 with
          | zero => intro h H locs ls h1 h2; exact absurd h2 (by omega)
          | succ f2 ih2 =>
            intro h H locs ls hk2 hf2 hN hS hl
            generalize hF_τh : zIt (zJ2S n) h (zIt (zJ1S n) n τ) = τh at hN hl 
            refine lv_iload_n hx hb dX2_join_62 rfl (lv_at hl 0 rfl) ?_
            refine lv_aload_n hx hb dX2_join_63 rfl (lv_at hl 1 rfl) ?_
            refine z_getR hx hb hts hown in_X2_join_X2 hK hN (hts _ (List.mem_of_getElem? (i := 1) (by decide +kernel))) dX2_join_64 ?_
            refine z_getO (v := .int (nI n)) hx hb hts hown in_X2_join_X1 hK hN 2 (by decide) rfl (hts _ (List.mem_of_getElem? (i := 2) (by decide +kernel))) rfl dX2_join_67 ?_
            refine lv_icmp_ge (tgt := 92) hx hb dX2_join_70 (by decide) (fun c_3 => ?_) (fun c_4 => ?_)
            · skip
              have c_3 := (z_leI (a := n) (b := h) (by omega) (by omega)).mp c_3
              have hkn2 : h = n := by omega
              rw [hkn2] at hF_τh
              subst hF_τh
              exact z_vret hx hb hr hlk hK hS (hN.cast (by first | with_reducible rfl | (simp only [zJo, c_1, c_3, eq_self, ne_eq, not_true_eq_false, not_false_eq_true, and_true, true_and, and_self, and_false, false_and, true_or, or_true, false_or, or_false, reduceIte]; done) | (simp [zJo, c_1, c_3]; done) | rfl | (simp_all [zJo]; done))) dX2_join_92
            · skip
              have c_4 := (not_congr (z_leI (a := n) (b := h) (by omega) (by omega))).mp c_4
              refine lv_aload_n hx hb dX2_join_73 rfl (lv_at hl 1 rfl) ?_
              refine lv_iload_n hx hb dX2_join_74 rfl (lv_at hl 0 rfl) ?_
              refine z_vi (As := [.int (nI h)]) (rest := []) (P2 := zNA G ad n N g (zX r ad) τh) (r := zBi (τh 7 h = nI h)) S (c_X2_isHead l G A ad n N g r hA hnN hN12  τh h (by omega)) (cwV 1 hts gX2_join_X2_isHead rfl rfl rfl (by decide +kernel) ⟨Nat.le_of_ble_eq_true rfl, Nat.le_of_ble_eq_true rfl⟩) (z_recR hK hN) hN hK hS (fun _ _ h => h) (fun _ h => h) hl.1 rfl rfl (Nat.le_of_ble_eq_true rfl) dX2_join_75 ⟨Nat.le_refl _, Nat.le_refl _⟩ (fun H locs hN hS _ => ?_)
              refine lv_if_eq (tgt := 86) hx hb dX2_join_78 (by decide) (fun c_5 => ?_) (fun c_6 => ?_)
              · skip
                have c_5 := zBi_0.mp c_5
                refine lv_iinc (v := nI (h + 1)) (lv' := [(1, .int (nI (h + 1))), (0, .ref r)]) hx hb dX2_join_86 hl (k := 0) rfl (nI_1 _) (by decide) rfl (fun ls hl => ?_)
                refine lv_goto (tgt := 62) hx hb dX2_join_89 (by decide) ?_
                have e_7 : zIt (zJ2S n) (h + 1) (zIt (zJ1S n) n τ) = τh := by
                  rw [zIt_s, hF_τh]
                  first | with_reducible rfl | (simp only [zJ2S, c_1, c_4, c_5, eq_self, ne_eq, not_true_eq_false, not_false_eq_true, and_true, true_and, and_self, and_false, false_and, true_or, or_true, false_or, or_false, reduceIte]; done) | (simp [zJ2S, c_1, c_4, c_5]; done) | rfl | (simp_all [zJ2S]; done)
                refine ih2 (h + 1) _ _ _ (by omega) (by omega) ?_ hS ?_
                · first | exact hN | (rw [e_7]; exact hN)
                · first | exact lv_sub hl [0, 1] rfl | (rw [e_7]; exact lv_sub hl [0, 1] rfl)
              · skip
                have c_6 := zBi_n0.mp c_6
                refine lv_aload_n hx hb dX2_join_81 rfl (lv_at hl 1 rfl) ?_
                refine lv_iload_n hx hb dX2_join_82 rfl (lv_at hl 0 rfl) ?_
                refine z_vv (As := [.int (nI h)]) (rest := []) (P2 := zNA G ad n N g (zX r ad) (zGs n h τh)) S (c_X2_giveSlots l G A ad n N g r hA hnN hN12  τh h (by omega)) (cwV 1 hts gX2_join_X2_giveSlots rfl rfl rfl (by decide +kernel) ⟨Nat.le_of_ble_eq_true rfl, Nat.le_of_ble_eq_true rfl⟩) (z_recR hK hN) hN hK hS (fun _ _ h => h) (fun _ h => h) hl.1 rfl rfl (Nat.le_of_ble_eq_true rfl) dX2_join_83 ⟨Nat.le_refl _, Nat.le_refl _⟩ (fun H locs hN hS _ => ?_)
                refine lv_iinc (v := nI (h + 1)) (lv' := [(1, .int (nI (h + 1))), (0, .ref r)]) hx hb dX2_join_86 hl (k := 0) rfl (nI_1 _) (by decide) rfl (fun ls hl => ?_)
                refine lv_goto (tgt := 62) hx hb dX2_join_89 (by decide) ?_
                have e_8 : zIt (zJ2S n) (h + 1) (zIt (zJ1S n) n τ) = zGs n h τh := by
                  rw [zIt_s, hF_τh]
                  first | with_reducible rfl | (simp only [zJ2S, c_1, c_4, c_6, eq_self, ne_eq, not_true_eq_false, not_false_eq_true, and_true, true_and, and_self, and_false, false_and, true_or, or_true, false_or, or_false, reduceIte]; done) | (simp [zJ2S, c_1, c_4, c_6]; done) | rfl | (simp_all [zJ2S]; done)
                refine ih2 (h + 1) _ _ _ (by omega) (by omega) ?_ hS ?_
                · first | exact hN | (rw [e_8]; exact hN)
                · first | exact lv_sub hl [0, 1] rfl | (rw [e_8]; exact lv_sub hl [0, 1] rfl)
        exact loop2 (n + 1) 0 _ _ _ (by omega) (by omega) hN hS (lv_sub hl [0, 1] rfl)
      · skip
        have c_2 := (not_congr (z_leI (a := n) (b := k) (by omega) (by omega))).mp c_2
        refine lv_aload_n hx hb dX2_join_13 rfl (lv_at hl 1 rfl) ?_
        refine z_getR hx hb hts hown in_X2_join_X2 hK hN (hts _ (List.mem_of_getElem? (i := 1) (by decide +kernel))) dX2_join_14 ?_
        refine z_getO (v := .ref (ad 1)) hx hb hts hown in_X2_join_X1 hK hN 0 (by decide) rfl (hts _ (List.mem_of_getElem? (i := 3) (by decide +kernel))) rfl dX2_join_17 ?_
        refine lv_iload_n hx hb dX2_join_20 rfl (lv_at hl 0 rfl) ?_
        refine z_aald (i := k) hx hb hK hN rfl (by omega) dX2_join_21 ?_
        refine lv_astore_n (lv' := [(2, .ref (ad (3 + k))), (1, .int (nI k)), (0, .ref r)]) hx hb dX2_join_22 rfl hl (by decide) rfl (fun ls hl => ?_)
        refine lv_aload_n hx hb dX2_join_23 rfl (lv_at hl 0 rfl) ?_
        refine z_getS (v := .int (zBi (τk 3 k = 1))) hx hb hts hown in_X2_join_X3 hK hN12 hN (by omega) 3 (by decide) rfl (hts _ (List.mem_of_getElem? (i := 4) (by decide +kernel))) rfl dX2_join_24 ?_
        refine lv_if_eq (tgt := 54) hx hb dX2_join_27 (by decide) (fun c_9 => ?_) (fun c_10 => ?_)
        · skip
          have c_9 := zBi_0.mp c_9
          refine lv_iinc (v := nI (k + 1)) (lv' := [(1, .int (nI (k + 1))), (2, .ref (ad (3 + k))), (0, .ref r)]) hx hb dX2_join_54 hl (k := 1) rfl (nI_1 _) (by decide) rfl (fun ls hl => ?_)
          refine lv_goto (tgt := 2) hx hb dX2_join_57 (by decide) ?_
          have e_11 : zIt (zJ1S n) (k + 1) τ = τk := by
            rw [zIt_s, hF_τk]
            first | with_reducible rfl | (simp only [zJ1S, c_2, c_9, eq_self, ne_eq, not_true_eq_false, not_false_eq_true, and_true, true_and, and_self, and_false, false_and, true_or, or_true, false_or, or_false, reduceIte]; done) | (simp [zJ1S, c_2, c_9]; done) | rfl | (simp_all [zJ1S]; done)
          refine ih1 (k + 1) _ _ _ (by omega) (by omega) ?_ hS ?_
          · first | exact hN | (rw [e_11]; exact hN)
          · first | exact lv_sub hl [0, 2] rfl | (rw [e_11]; exact lv_sub hl [0, 2] rfl)
        · skip
          have c_10 := zBi_n0.mp c_10
          refine lv_aload_n hx hb dX2_join_30 rfl (lv_at hl 0 rfl) ?_
          refine z_getS (v := .int (τk 7 k)) hx hb hts hown in_X2_join_X3 hK hN12 hN (by omega) 7 (by decide) rfl (hts _ (List.mem_of_getElem? (i := 5) (by decide +kernel))) rfl dX2_join_31 ?_
          refine lv_iload_n hx hb dX2_join_34 rfl (lv_at hl 1 rfl) ?_
          refine lv_icmp_eq (tgt := 54) hx hb dX2_join_35 (by decide) (fun c_12 => ?_) (fun c_13 => ?_)
          · skip
            refine lv_iinc (v := nI (k + 1)) (lv' := [(1, .int (nI (k + 1))), (2, .ref (ad (3 + k))), (0, .ref r)]) hx hb dX2_join_54 hl (k := 1) rfl (nI_1 _) (by decide) rfl (fun ls hl => ?_)
            refine lv_goto (tgt := 2) hx hb dX2_join_57 (by decide) ?_
            have e_14 : zIt (zJ1S n) (k + 1) τ = τk := by
              rw [zIt_s, hF_τk]
              first | with_reducible rfl | (simp only [zJ1S, c_2, c_10, c_12, eq_self, ne_eq, not_true_eq_false, not_false_eq_true, and_true, true_and, and_self, and_false, false_and, true_or, or_true, false_or, or_false, reduceIte]; done) | (simp [zJ1S, c_2, c_10, c_12]; done) | rfl | (simp_all [zJ1S]; done)
            refine ih1 (k + 1) _ _ _ (by omega) (by omega) ?_ hS ?_
            · first | exact hN | (rw [e_14]; exact hN)
            · first | exact lv_sub hl [0, 2] rfl | (rw [e_14]; exact lv_sub hl [0, 2] rfl)
          · skip
            refine lv_aload_n hx hb dX2_join_38 rfl (lv_at hl 0 rfl) ?_
            refine lv_aload_n hx hb dX2_join_39 rfl (lv_at hl 2 rfl) ?_
            refine lv_aload_n hx hb dX2_join_40 rfl (lv_at hl 0 rfl) ?_
            refine z_getS (v := .int (τk 0 k)) hx hb hts hown in_X2_join_X3 hK hN12 hN (by omega) 0 (by decide) rfl (hts _ (List.mem_of_getElem? (i := 6) (by decide +kernel))) rfl dX2_join_41 ?_
            refine lv_aload_n hx hb dX2_join_44 rfl (lv_at hl 0 rfl) ?_
            refine z_getS (v := .int (τk 1 k)) hx hb hts hown in_X2_join_X3 hK hN12 hN (by omega) 1 (by decide) rfl (hts _ (List.mem_of_getElem? (i := 7) (by decide +kernel))) rfl dX2_join_45 ?_
            refine z_vi (As := [.int (τk 0 k), .int (τk 1 k)]) (rest := [.ref (ad (3 + k))]) (P2 := zNA G ad n N g (zX r ad) τk) (r := zOi (zNe n τk (τk 0 k) (τk 1 k))) S (c_X2_nearestHead l G A ad n N g r hA hnN hN12  τk (τk 0 k) (τk 1 k)) (cwV 2 hts gX2_join_X2_nearestHead rfl rfl rfl (by decide +kernel) ⟨Nat.le_of_ble_eq_true rfl, Nat.le_of_ble_eq_true rfl⟩) (z_recR hK hN) hN hK hS (fun _ _ h => h) (fun _ h => h) hl.1 rfl rfl (Nat.le_of_ble_eq_true rfl) dX2_join_48 ⟨Nat.le_refl _, Nat.le_refl _⟩ (fun H locs hN hS _ => ?_)
            refine z_putS (v := .int (zOi (zNe n τk (τk 0 k) (τk 1 k)))) (w := zOi (zNe n τk (τk 0 k) (τk 1 k))) (ty := .int) hx hb hts hown in_X2_join_X3 hK hA hS hN (by omega) 7 7 (by decide) rfl (by decide) (hts _ (List.mem_of_getElem? (i := 5) (by decide +kernel))) (by decide +kernel) rfl rfl rfl (fun τ => zSet7 τ _ _) dX2_join_51 (fun H locs hN hS => ?_)
            refine lv_iinc (v := nI (k + 1)) (lv' := [(1, .int (nI (k + 1))), (2, .ref (ad (3 + k))), (0, .ref r)]) hx hb dX2_join_54 hl (k := 1) rfl (nI_1 _) (by decide) rfl (fun ls hl => ?_)
            refine lv_goto (tgt := 2) hx hb dX2_join_57 (by decide) ?_
            have e_15 : zIt (zJ1S n) (k + 1) τ = zSt τk 7 k (zOi (zNe n τk (τk 0 k) (τk 1 k))) := by
              rw [zIt_s, hF_τk]
              first | with_reducible rfl | (simp only [zJ1S, c_2, c_10, c_13, eq_self, ne_eq, not_true_eq_false, not_false_eq_true, and_true, true_and, and_self, and_false, false_and, true_or, or_true, false_or, or_false, reduceIte]; done) | (simp [zJ1S, c_2, c_10, c_13]; done) | rfl | (simp_all [zJ1S]; done)
            refine ih1 (k + 1) _ _ _ (by omega) (by omega) ?_ hS ?_
            · first | exact hN | (rw [e_15]; exact hN)
            · first | exact lv_sub hl [0, 2] rfl | (rw [e_15]; exact lv_sub hl [0, 2] rfl)
  exact loop1 (n + 1) 0 _ _ _ (by omega) (by omega) hN hS (lv_sub hl [0, 1] rfl)

theorem in_X2_sends_X1 : ∀ w ∈ wsX10, w ∈ wsX2_sends := by decide +kernel
theorem in_X2_sends_X2 : ∀ w ∈ wsX20, w ∈ wsX2_sends := by decide +kernel
theorem in_X2_sends_X3 : ∀ w ∈ wsX30, w ∈ wsX2_sends := by decide +kernel
set_option maxHeartbeats 4000000 in
set_option maxRecDepth 100000 in
theorem c_X2_sends (l : Launch) (G : zG) (A : Nat → Prop) (ad : Nat → Nat) (n N : Nat) (g : Nat → Int32) (r : Nat) (hA : zAp G ad (zX r ad) A) (hnN : n ≤ N) (hN12 : N ≤ 12) (hd5 : 0 < g 5) (τ : zT) (i h : Nat) (hi : i < N) (hh : h < N) : zMi l G A yX2_sends wsX2_sends 1 24 [.ref r, .ref (ad (3 + i)), .ref (ad (3 + h))] (zNA G ad n N g (zX r ad) τ) ((zSd g τ i h).2) (zNA G ad n N g (zX r ad) ((zSd g τ i h).1)) := by
  refine z_met (cc := cX2_sends) (maxL := 3) (ret := (some .boolean)) (by decide) rfl (Nat.le_of_ble_eq_true rfl) ?_
  intro p e s m below meth c ls S hr hlk hnm hN hK hl
  have S : CallFix p m c cX2_sends 3 s _ wsX2_sends RX2 := S
  obtain ⟨hx, hb, hml, hown, hts⟩ := id S
  have hS : va_S A s.heap s.heap [] := va_S.rf
  have hl : lv_has ls 3 [(0, .ref r), (1, .ref (ad (3 + i))), (2, .ref (ad (3 + h)))] := hl
  refine lv_aload_n hx hb dX2_sends_0 rfl (lv_at hl 0 rfl) ?_
  refine lv_aload_n hx hb dX2_sends_1 rfl (lv_at hl 1 rfl) ?_
  refine lv_aload_n hx hb dX2_sends_2 rfl (lv_at hl 0 rfl) ?_
  refine z_getR hx hb hts hown in_X2_sends_X2 hK hN (hts _ (List.mem_of_getElem? (i := 1) (by decide +kernel))) dX2_sends_3 ?_
  refine lv_aload_n hx hb dX2_sends_6 rfl (lv_at hl 1 rfl) ?_
  refine lv_aload_n hx hb dX2_sends_7 rfl (lv_at hl 2 rfl) ?_
  refine z_getS (v := .int (τ 0 h)) hx hb hts hown in_X2_sends_X3 hK hN12 hN (by omega) 0 (by decide) rfl (hts _ (List.mem_of_getElem? (i := 2) (by decide +kernel))) rfl dX2_sends_8 ?_
  refine lv_aload_n hx hb dX2_sends_11 rfl (lv_at hl 2 rfl) ?_
  refine z_getS (v := .int (τ 1 h)) hx hb hts hown in_X2_sends_X3 hK hN12 hN (by omega) 1 (by decide) rfl (hts _ (List.mem_of_getElem? (i := 3) (by decide +kernel))) rfl dX2_sends_12 ?_
  refine z_vi (As := [.int (τ 0 h), .int (τ 1 h)]) (rest := [.ref (ad 0), .ref (ad (3 + i)), .ref r]) (P2 := zNA G ad n N g (zX r ad) τ) (r := zDi (τ 0 i) (τ 1 i) (τ 0 h) (τ 1 h)) S (c_X3_distanceTo l G A ad n N g (zX r ad) hA hnN hN12  τ i (by omega) (τ 0 h) (τ 1 h)) (cwV 2 hts gX2_sends_X3_distanceTo rfl rfl rfl (by decide +kernel) ⟨Nat.le_of_ble_eq_true rfl, Nat.le_of_ble_eq_true rfl⟩) (z_recS hK hN (by omega)) hN hK hS (fun _ _ h => h) (fun _ h => h) hl.1 rfl rfl (Nat.le_of_ble_eq_true rfl) dX2_sends_15 ⟨Nat.le_refl _, Nat.le_refl _⟩ (fun H locs hN hS _ => ?_)
  refine z_vi (As := [.int (zDi (τ 0 i) (τ 1 i) (τ 0 h) (τ 1 h))]) (rest := [.ref (ad (3 + i)), .ref r]) (P2 := zNA G ad n N g (zX r ad) τ) (r := zCo g (zDi (τ 0 i) (τ 1 i) (τ 0 h) (τ 1 h))) S (c_X1_costOver l G A ad n N g (zX r ad) hA hnN hN12 hd5 τ (zDi (τ 0 i) (τ 1 i) (τ 0 h) (τ 1 h))) (cwV 1 hts gX2_sends_X1_costOver rfl rfl rfl (by decide +kernel) ⟨Nat.le_of_ble_eq_true rfl, Nat.le_of_ble_eq_true rfl⟩) (z_recN hK hN) hN hK hS (fun _ _ h => h) (fun _ h => h) hl.1 rfl rfl (Nat.le_of_ble_eq_true rfl) dX2_sends_18 ⟨Nat.le_refl _, Nat.le_refl _⟩ (fun H locs hN hS _ => ?_)
  refine z_vi (As := [.ref (ad (3 + i)), .int (zCo g (zDi (τ 0 i) (τ 1 i) (τ 0 h) (τ 1 h)))]) (rest := []) (P2 := zNA G ad n N g (zX r ad) (zPay τ i (zCo g (zDi (τ 0 i) (τ 1 i) (τ 0 h) (τ 1 h))))) (r := zBi (¬ τ 2 i < (zCo g (zDi (τ 0 i) (τ 1 i) (τ 0 h) (τ 1 h))))) S (c_X2_pays l G A ad n N g r hA hnN hN12  τ i (by omega) (zCo g (zDi (τ 0 i) (τ 1 i) (τ 0 h) (τ 1 h)))) (cwV 2 hts gX2_sends_X2_pays rfl rfl rfl (by decide +kernel) ⟨Nat.le_of_ble_eq_true rfl, Nat.le_of_ble_eq_true rfl⟩) (z_recR hK hN) hN hK hS (fun _ _ h => h) (fun _ h => h) hl.1 rfl rfl (Nat.le_of_ble_eq_true rfl) dX2_sends_21 ⟨Nat.le_refl _, Nat.le_refl _⟩ (fun H locs hN hS _ => ?_)
  refine lv_if_eq (tgt := 72) hx hb dX2_sends_24 (by decide) (fun c_1 => ?_) (fun c_2 => ?_)
  · skip
    have c_1 := zBi_0.mp c_1
    have c_1 := Decidable.of_not_not c_1
    have hN := hN.cast (zPay_n c_1)
    refine lv_iconst (v := 0) hx hb dX2_sends_72 (by decide) ?_
    refine z_top (x2 := (zSd g τ i h).2) (by first | with_reducible rfl | (simp only [zSd, zTk, zPay, zDs, c_1, eq_self, ne_eq, not_true_eq_false, not_false_eq_true, and_true, true_and, and_self, and_false, false_and, true_or, or_true, false_or, or_false, reduceIte]; done) | (simp [zSd, zTk, zPay, zDs, c_1]; done) | rfl | (simp_all [zSd, zTk, zPay, zDs]; done)) ?_
    exact z_zret hx hb hr hlk (by rcases zSd_bit g τ i h with q | q <;> rw [q] <;> decide) hK hS (hN.cast (by first | with_reducible rfl | (simp only [zSd, zTk, zPay, zDs, c_1, eq_self, ne_eq, not_true_eq_false, not_false_eq_true, and_true, true_and, and_self, and_false, false_and, true_or, or_true, false_or, or_false, reduceIte]; done) | (simp [zSd, zTk, zPay, zDs, c_1]; done) | rfl | (simp_all [zSd, zTk, zPay, zDs]; done))) dX2_sends_73
  · skip
    have c_2 := zBi_n0.mp c_2
    have hN := hN.cast (zPay_y c_2)
    refine lv_aload_n hx hb dX2_sends_27 rfl (lv_at hl 2 rfl) ?_
    refine z_getS (v := .int (zBi ((zPd τ i (zCo g (zDi (τ 0 i) (τ 1 i) (τ 0 h) (τ 1 h)))) 3 h = 1))) hx hb hts hown in_X2_sends_X3 hK hN12 hN (by omega) 3 (by decide) rfl (hts _ (List.mem_of_getElem? (i := 4) (by decide +kernel))) rfl dX2_sends_28 ?_
    refine lv_if_eq (tgt := 72) hx hb dX2_sends_31 (by decide) (fun c_3 => ?_) (fun c_4 => ?_)
    · skip
      have c_3 := zBi_0.mp c_3
      refine lv_iconst (v := 0) hx hb dX2_sends_72 (by decide) ?_
      refine z_top (x2 := (zSd g τ i h).2) (by first | with_reducible rfl | (simp only [zSd, zTk, zPay, zDs, c_2, c_3, eq_self, ne_eq, not_true_eq_false, not_false_eq_true, and_true, true_and, and_self, and_false, false_and, true_or, or_true, false_or, or_false, reduceIte]; done) | (simp [zSd, zTk, zPay, zDs, c_2, c_3]; done) | rfl | (simp_all [zSd, zTk, zPay, zDs]; done)) ?_
      exact z_zret hx hb hr hlk (by rcases zSd_bit g τ i h with q | q <;> rw [q] <;> decide) hK hS (hN.cast (by first | with_reducible rfl | (simp only [zSd, zTk, zPay, zDs, c_2, c_3, eq_self, ne_eq, not_true_eq_false, not_false_eq_true, and_true, true_and, and_self, and_false, false_and, true_or, or_true, false_or, or_false, reduceIte]; done) | (simp [zSd, zTk, zPay, zDs, c_2, c_3]; done) | rfl | (simp_all [zSd, zTk, zPay, zDs]; done))) dX2_sends_73
    · skip
      have c_4 := zBi_n0.mp c_4
      refine lv_aload_n hx hb dX2_sends_34 rfl (lv_at hl 0 rfl) ?_
      refine lv_aload_n hx hb dX2_sends_35 rfl (lv_at hl 2 rfl) ?_
      refine lv_aload_n hx hb dX2_sends_36 rfl (lv_at hl 0 rfl) ?_
      refine z_getR hx hb hts hown in_X2_sends_X2 hK hN (hts _ (List.mem_of_getElem? (i := 1) (by decide +kernel))) dX2_sends_37 ?_
      refine z_getO (v := .ref (ad 2)) hx hb hts hown in_X2_sends_X1 hK hN 1 (by decide) rfl (hts _ (List.mem_of_getElem? (i := 5) (by decide +kernel))) rfl dX2_sends_40 ?_
      refine lv_iconst (v := 1) hx hb dX2_sends_43 (by decide) ?_
      refine z_iald (w := g 4) hx hb hK hN 1 (by decide) (by decide) rfl dX2_sends_44 ?_
      refine z_vi (As := [.ref (ad (3 + h)), .int (g 4)]) (rest := []) (P2 := zNA G ad n N g (zX r ad) (zPay (zPd τ i (zCo g (zDi (τ 0 i) (τ 1 i) (τ 0 h) (τ 1 h)))) h (g 4))) (r := zBi (¬ (zPd τ i (zCo g (zDi (τ 0 i) (τ 1 i) (τ 0 h) (τ 1 h)))) 2 h < (g 4))) S (c_X2_pays l G A ad n N g r hA hnN hN12  (zPd τ i (zCo g (zDi (τ 0 i) (τ 1 i) (τ 0 h) (τ 1 h)))) h (by omega) (g 4)) (cwV 2 hts gX2_sends_X2_pays rfl rfl rfl (by decide +kernel) ⟨Nat.le_of_ble_eq_true rfl, Nat.le_of_ble_eq_true rfl⟩) (z_recR hK hN) hN hK hS (fun _ _ h => h) (fun _ h => h) hl.1 rfl rfl (Nat.le_of_ble_eq_true rfl) dX2_sends_45 ⟨Nat.le_refl _, Nat.le_refl _⟩ (fun H locs hN hS _ => ?_)
      refine lv_if_eq (tgt := 72) hx hb dX2_sends_48 (by decide) (fun c_5 => ?_) (fun c_6 => ?_)
      · skip
        have c_5 := zBi_0.mp c_5
        have c_5 := Decidable.of_not_not c_5
        have hN := hN.cast (zPay_n c_5)
        refine lv_iconst (v := 0) hx hb dX2_sends_72 (by decide) ?_
        refine z_top (x2 := (zSd g τ i h).2) (by first | with_reducible rfl | (simp only [zSd, zTk, zPay, zDs, c_2, c_4, c_5, eq_self, ne_eq, not_true_eq_false, not_false_eq_true, and_true, true_and, and_self, and_false, false_and, true_or, or_true, false_or, or_false, reduceIte]; done) | (simp [zSd, zTk, zPay, zDs, c_2, c_4, c_5]; done) | rfl | (simp_all [zSd, zTk, zPay, zDs]; done)) ?_
        exact z_zret hx hb hr hlk (by rcases zSd_bit g τ i h with q | q <;> rw [q] <;> decide) hK hS (hN.cast (by first | with_reducible rfl | (simp only [zSd, zTk, zPay, zDs, c_2, c_4, c_5, eq_self, ne_eq, not_true_eq_false, not_false_eq_true, and_true, true_and, and_self, and_false, false_and, true_or, or_true, false_or, or_false, reduceIte]; done) | (simp [zSd, zTk, zPay, zDs, c_2, c_4, c_5]; done) | rfl | (simp_all [zSd, zTk, zPay, zDs]; done))) dX2_sends_73
      · skip
        have c_6 := zBi_n0.mp c_6
        have hN := hN.cast (zPay_y c_6)
        refine lv_aload_n hx hb dX2_sends_51 rfl (lv_at hl 0 rfl) ?_
        refine lv_aload_n hx hb dX2_sends_52 rfl (lv_at hl 2 rfl) ?_
        refine lv_aload_n hx hb dX2_sends_53 rfl (lv_at hl 0 rfl) ?_
        refine z_getR hx hb hts hown in_X2_sends_X2 hK hN (hts _ (List.mem_of_getElem? (i := 1) (by decide +kernel))) dX2_sends_54 ?_
        refine z_getO (v := .ref (ad 2)) hx hb hts hown in_X2_sends_X1 hK hN 1 (by decide) rfl (hts _ (List.mem_of_getElem? (i := 5) (by decide +kernel))) rfl dX2_sends_57 ?_
        refine lv_iconst (v := 3) hx hb dX2_sends_60 (by decide) ?_
        refine z_iald (w := g 6) hx hb hK hN 3 (by decide) (by decide) rfl dX2_sends_61 ?_
        refine z_vi (As := [.ref (ad (3 + h)), .int (g 6)]) (rest := []) (P2 := zNA G ad n N g (zX r ad) (zPay (zPd (zPd τ i (zCo g (zDi (τ 0 i) (τ 1 i) (τ 0 h) (τ 1 h)))) h (g 4)) h (g 6))) (r := zBi (¬ (zPd (zPd τ i (zCo g (zDi (τ 0 i) (τ 1 i) (τ 0 h) (τ 1 h)))) h (g 4)) 2 h < (g 6))) S (c_X2_pays l G A ad n N g r hA hnN hN12  (zPd (zPd τ i (zCo g (zDi (τ 0 i) (τ 1 i) (τ 0 h) (τ 1 h)))) h (g 4)) h (by omega) (g 6)) (cwV 2 hts gX2_sends_X2_pays rfl rfl rfl (by decide +kernel) ⟨Nat.le_of_ble_eq_true rfl, Nat.le_of_ble_eq_true rfl⟩) (z_recR hK hN) hN hK hS (fun _ _ h => h) (fun _ h => h) hl.1 rfl rfl (Nat.le_of_ble_eq_true rfl) dX2_sends_62 ⟨Nat.le_refl _, Nat.le_refl _⟩ (fun H locs hN hS _ => ?_)
        refine lv_if_eq (tgt := 72) hx hb dX2_sends_65 (by decide) (fun c_7 => ?_) (fun c_8 => ?_)
        · skip
          have c_7 := zBi_0.mp c_7
          have c_7 := Decidable.of_not_not c_7
          have hN := hN.cast (zPay_n c_7)
          refine lv_iconst (v := 0) hx hb dX2_sends_72 (by decide) ?_
          refine z_top (x2 := (zSd g τ i h).2) (by first | with_reducible rfl | (simp only [zSd, zTk, zPay, zDs, c_2, c_4, c_6, c_7, eq_self, ne_eq, not_true_eq_false, not_false_eq_true, and_true, true_and, and_self, and_false, false_and, true_or, or_true, false_or, or_false, reduceIte]; done) | (simp [zSd, zTk, zPay, zDs, c_2, c_4, c_6, c_7]; done) | rfl | (simp_all [zSd, zTk, zPay, zDs]; done)) ?_
          exact z_zret hx hb hr hlk (by rcases zSd_bit g τ i h with q | q <;> rw [q] <;> decide) hK hS (hN.cast (by first | with_reducible rfl | (simp only [zSd, zTk, zPay, zDs, c_2, c_4, c_6, c_7, eq_self, ne_eq, not_true_eq_false, not_false_eq_true, and_true, true_and, and_self, and_false, false_and, true_or, or_true, false_or, or_false, reduceIte]; done) | (simp [zSd, zTk, zPay, zDs, c_2, c_4, c_6, c_7]; done) | rfl | (simp_all [zSd, zTk, zPay, zDs]; done))) dX2_sends_73
        · skip
          have c_8 := zBi_n0.mp c_8
          have hN := hN.cast (zPay_y c_8)
          refine lv_iconst (v := 1) hx hb dX2_sends_68 (by decide) ?_
          refine lv_goto (tgt := 73) hx hb dX2_sends_69 (by decide) ?_
          refine z_top (x2 := (zSd g τ i h).2) (by first | with_reducible rfl | (simp only [zSd, zTk, zPay, zDs, c_2, c_4, c_6, c_8, eq_self, ne_eq, not_true_eq_false, not_false_eq_true, and_true, true_and, and_self, and_false, false_and, true_or, or_true, false_or, or_false, reduceIte]; done) | (simp [zSd, zTk, zPay, zDs, c_2, c_4, c_6, c_8]; done) | rfl | (simp_all [zSd, zTk, zPay, zDs]; done)) ?_
          exact z_zret hx hb hr hlk (by rcases zSd_bit g τ i h with q | q <;> rw [q] <;> decide) hK hS (hN.cast (by first | with_reducible rfl | (simp only [zSd, zTk, zPay, zDs, c_2, c_4, c_6, c_8, eq_self, ne_eq, not_true_eq_false, not_false_eq_true, and_true, true_and, and_self, and_false, false_and, true_or, or_true, false_or, or_false, reduceIte]; done) | (simp [zSd, zTk, zPay, zDs, c_2, c_4, c_6, c_8]; done) | rfl | (simp_all [zSd, zTk, zPay, zDs]; done))) dX2_sends_73

theorem in_X2_reportTo_X1 : ∀ w ∈ wsX10, w ∈ wsX2_reportTo := by decide +kernel
theorem in_X2_reportTo_X2 : ∀ w ∈ wsX20, w ∈ wsX2_reportTo := by decide +kernel
theorem in_X2_reportTo_X3 : ∀ w ∈ wsX30, w ∈ wsX2_reportTo := by decide +kernel
set_option maxHeartbeats 4000000 in
set_option maxRecDepth 100000 in
theorem c_X2_reportTo (l : Launch) (G : zG) (A : Nat → Prop) (ad : Nat → Nat) (n N : Nat) (g : Nat → Int32) (r : Nat) (hA : zAp G ad (zX r ad) A) (hnN : n ≤ N) (hN12 : N ≤ 12) (hd5 : 0 < g 5) (τ : zT) (h : Nat) (hh : h < n) : zMv l G A yX2_reportTo wsX2_reportTo 2 46 [.ref r, .int (nI h)] (zNA G ad n N g (zX r ad) τ) (zNA G ad n N g (zX r ad) (zIt (zRpS g h) n τ)) := by
  refine z_met (cc := cX2_reportTo) (maxL := 5) (ret := none) (by decide) rfl (Nat.le_of_ble_eq_true rfl) ?_
  intro p e s m below meth c ls S hr hlk hnm hN hK hl
  have S : CallFix p m c cX2_reportTo 5 s _ wsX2_reportTo RX2 := S
  obtain ⟨hx, hb, hml, hown, hts⟩ := id S
  have hS : va_S A s.heap s.heap [] := va_S.rf
  have hl : lv_has ls 5 [(0, .ref r), (1, .int (nI h))] := hl
  refine lv_aload_n hx hb dX2_reportTo_0 rfl (lv_at hl 0 rfl) ?_
  refine z_getR hx hb hts hown in_X2_reportTo_X2 hK hN (hts _ (List.mem_of_getElem? (i := 1) (by decide +kernel))) dX2_reportTo_1 ?_
  refine z_getO (v := .ref (ad 1)) hx hb hts hown in_X2_reportTo_X1 hK hN 0 (by decide) rfl (hts _ (List.mem_of_getElem? (i := 2) (by decide +kernel))) rfl dX2_reportTo_4 ?_
  refine lv_iload_n hx hb dX2_reportTo_7 rfl (lv_at hl 1 rfl) ?_
  refine z_aald (i := h) hx hb hK hN rfl (by omega) dX2_reportTo_8 ?_
  refine lv_astore_n (lv' := [(2, .ref (ad (3 + h))), (0, .ref r), (1, .int (nI h))]) hx hb dX2_reportTo_9 rfl hl (by decide) rfl (fun ls hl => ?_)
  refine lv_iconst (v := 0) hx hb dX2_reportTo_10 (by decide) ?_
  refine lv_istore_n (lv' := [(3, .int 0), (2, .ref (ad (3 + h))), (0, .ref r), (1, .int (nI h))]) hx hb dX2_reportTo_11 rfl hl (by decide) rfl (fun ls hl => ?_)
  have loop1 : ∀ (f1 k : Nat) (H : Heap) (locs : List Loc) (ls : Array Slot), k ≤ n → n < k + f1 → zNA G ad n N g (zX r ad) (zIt (zRpS g h) k τ) H → va_S A s.heap H locs → lv_has ls 5 [(3, .int (nI k)), (2, .ref (ad (3 + h))), (0, .ref r), (1, .int (nI h))] → W p l e ({ frames := 2, cells := 0, slots := 0, locals := 46 } : Room) s m ([.ref r, .int (nI h)] : List Value).toArray below meth c H locs 0 0 (MQ below (zQv G (zNA G ad n N g (zX r ad) (zIt (zRpS g h) n τ)) A) ([.ref r, .int (nI h)] : List Value).toArray s 0 0 A) (F0 m 12 ls []) := by
    intro f1
    induction f1 with
    | zero => intro k H locs ls h1 h2; exact absurd h2 (by omega)
    | succ f1 ih1 =>
      intro k H locs ls hk1 hf1 hN hS hl
      generalize hF_τk : zIt (zRpS g h) k τ = τk at hN hl 
      refine lv_iload_n hx hb dX2_reportTo_12 rfl (lv_at hl 0 rfl) ?_
      refine lv_aload_n hx hb dX2_reportTo_13 rfl (lv_at hl 2 rfl) ?_
      refine z_getR hx hb hts hown in_X2_reportTo_X2 hK hN (hts _ (List.mem_of_getElem? (i := 1) (by decide +kernel))) dX2_reportTo_14 ?_
      refine z_getO (v := .int (nI n)) hx hb hts hown in_X2_reportTo_X1 hK hN 2 (by decide) rfl (hts _ (List.mem_of_getElem? (i := 3) (by decide +kernel))) rfl dX2_reportTo_17 ?_
      refine lv_icmp_ge (tgt := 77) hx hb dX2_reportTo_20 (by decide) (fun c_1 => ?_) (fun c_2 => ?_)
      · skip
        have c_1 := (z_leI (a := n) (b := k) (by omega) (by omega)).mp c_1
        have hkn1 : k = n := by omega
        rw [hkn1] at hF_τk
        subst hF_τk
        exact z_vret hx hb hr hlk hK hS (hN.cast (by first | with_reducible rfl | (simp only [c_1, eq_self, ne_eq, not_true_eq_false, not_false_eq_true, and_true, true_and, and_self, and_false, false_and, true_or, or_true, false_or, or_false, reduceIte]; done) | (simp [c_1]; done) | rfl | (simp_all []; done))) dX2_reportTo_77
      · skip
        have c_2 := (not_congr (z_leI (a := n) (b := k) (by omega) (by omega))).mp c_2
        refine lv_aload_n hx hb dX2_reportTo_23 rfl (lv_at hl 2 rfl) ?_
        refine z_getR hx hb hts hown in_X2_reportTo_X2 hK hN (hts _ (List.mem_of_getElem? (i := 1) (by decide +kernel))) dX2_reportTo_24 ?_
        refine z_getO (v := .ref (ad 1)) hx hb hts hown in_X2_reportTo_X1 hK hN 0 (by decide) rfl (hts _ (List.mem_of_getElem? (i := 2) (by decide +kernel))) rfl dX2_reportTo_27 ?_
        refine lv_iload_n hx hb dX2_reportTo_30 rfl (lv_at hl 0 rfl) ?_
        refine z_aald (i := k) hx hb hK hN rfl (by omega) dX2_reportTo_31 ?_
        refine lv_astore (lv' := [(4, .ref (ad (3 + k))), (3, .int (nI k)), (2, .ref (ad (3 + h))), (0, .ref r), (1, .int (nI h))]) hx hb dX2_reportTo_32 hl (by decide) rfl (fun ls hl => ?_)
        refine lv_aload_n hx hb dX2_reportTo_34 rfl (lv_at hl 3 rfl) ?_
        refine lv_iload_n hx hb dX2_reportTo_35 rfl (lv_at hl 1 rfl) ?_
        refine lv_iload_n hx hb dX2_reportTo_36 rfl (lv_at hl 4 rfl) ?_
        refine z_vi (As := [.int (nI k), .int (nI h)]) (rest := []) (P2 := zNA G ad n N g (zX r ad) τk) (r := zBi (k ≠ h ∧ τk 7 k = nI h)) S (c_X2_hasJoined l G A ad n N g r hA hnN hN12  τk k h (by omega) (by omega)) (cwV 2 hts gX2_reportTo_X2_hasJoined rfl rfl rfl (by decide +kernel) ⟨Nat.le_of_ble_eq_true rfl, Nat.le_of_ble_eq_true rfl⟩) (z_recR hK hN) hN hK hS (fun _ _ h => h) (fun _ h => h) hl.1 rfl rfl (Nat.le_of_ble_eq_true rfl) dX2_reportTo_37 ⟨Nat.le_refl _, Nat.le_refl _⟩ (fun H locs hN hS _ => ?_)
        refine lv_if_eq (tgt := 71) hx hb dX2_reportTo_40 (by decide) (fun c_3 => ?_) (fun c_4 => ?_)
        · skip
          have c_3 := zBi_0.mp c_3
          refine lv_iinc (v := nI (k + 1)) (lv' := [(3, .int (nI (k + 1))), (4, .ref (ad (3 + k))), (2, .ref (ad (3 + h))), (0, .ref r), (1, .int (nI h))]) hx hb dX2_reportTo_71 hl (k := 1) rfl (nI_1 _) (by decide) rfl (fun ls hl => ?_)
          refine lv_goto (tgt := 12) hx hb dX2_reportTo_74 (by decide) ?_
          have e_5 : zIt (zRpS g h) (k + 1) τ = τk := by
            rw [zIt_s, hF_τk]
            first | with_reducible rfl | (simp only [zRpS, c_2, c_3, eq_self, ne_eq, not_true_eq_false, not_false_eq_true, and_true, true_and, and_self, and_false, false_and, true_or, or_true, false_or, or_false, reduceIte]; done) | (simp [zRpS, c_2, c_3]; done) | rfl | (simp_all [zRpS]; done)
          refine ih1 (k + 1) _ _ _ (by omega) (by omega) ?_ hS ?_
          · first | exact hN | (rw [e_5]; exact hN)
          · first | exact lv_sub hl [0, 2, 3, 4] rfl | (rw [e_5]; exact lv_sub hl [0, 2, 3, 4] rfl)
        · skip
          have c_4 := zBi_n0.mp c_4
          refine lv_aload hx hb dX2_reportTo_43 (lv_at hl 0 rfl) ?_
          refine z_getS (v := .int (zBi (τk 3 k = 1))) hx hb hts hown in_X2_reportTo_X3 hK hN12 hN (by omega) 3 (by decide) rfl (hts _ (List.mem_of_getElem? (i := 4) (by decide +kernel))) rfl dX2_reportTo_45 ?_
          refine lv_if_eq (tgt := 71) hx hb dX2_reportTo_48 (by decide) (fun c_6 => ?_) (fun c_7 => ?_)
          · skip
            have c_6 := zBi_0.mp c_6
            refine lv_iinc (v := nI (k + 1)) (lv' := [(3, .int (nI (k + 1))), (4, .ref (ad (3 + k))), (2, .ref (ad (3 + h))), (0, .ref r), (1, .int (nI h))]) hx hb dX2_reportTo_71 hl (k := 1) rfl (nI_1 _) (by decide) rfl (fun ls hl => ?_)
            refine lv_goto (tgt := 12) hx hb dX2_reportTo_74 (by decide) ?_
            have e_8 : zIt (zRpS g h) (k + 1) τ = τk := by
              rw [zIt_s, hF_τk]
              first | with_reducible rfl | (simp only [zRpS, c_2, c_4, c_6, eq_self, ne_eq, not_true_eq_false, not_false_eq_true, and_true, true_and, and_self, and_false, false_and, true_or, or_true, false_or, or_false, reduceIte]; done) | (simp [zRpS, c_2, c_4, c_6]; done) | rfl | (simp_all [zRpS]; done)
            refine ih1 (k + 1) _ _ _ (by omega) (by omega) ?_ hS ?_
            · first | exact hN | (rw [e_8]; exact hN)
            · first | exact lv_sub hl [0, 2, 3, 4] rfl | (rw [e_8]; exact lv_sub hl [0, 2, 3, 4] rfl)
          · skip
            have c_7 := zBi_n0.mp c_7
            refine lv_aload_n hx hb dX2_reportTo_51 rfl (lv_at hl 3 rfl) ?_
            refine lv_aload hx hb dX2_reportTo_52 (lv_at hl 0 rfl) ?_
            refine lv_aload_n hx hb dX2_reportTo_54 rfl (lv_at hl 2 rfl) ?_
            refine z_vi (As := [.ref (ad (3 + k)), .ref (ad (3 + h))]) (rest := []) (P2 := zNA G ad n N g (zX r ad) ((zSd g τk k h).1)) (r := (zSd g τk k h).2) S (c_X2_sends l G A ad n N g r hA hnN hN12 hd5 τk k h (by omega) (by omega)) (cwV 2 hts gX2_reportTo_X2_sends rfl rfl rfl (by decide +kernel) ⟨Nat.le_of_ble_eq_true rfl, Nat.le_of_ble_eq_true rfl⟩) (z_recR hK hN) hN hK hS (fun _ _ h => h) (fun _ h => h) hl.1 rfl rfl (Nat.le_of_ble_eq_true rfl) dX2_reportTo_55 ⟨Nat.le_refl _, Nat.le_refl _⟩ (fun H locs hN hS _ => ?_)
            refine lv_if_eq (tgt := 71) hx hb dX2_reportTo_58 (by decide) (fun c_9 => ?_) (fun c_10 => ?_)
            · skip
              refine lv_iinc (v := nI (k + 1)) (lv' := [(3, .int (nI (k + 1))), (4, .ref (ad (3 + k))), (2, .ref (ad (3 + h))), (0, .ref r), (1, .int (nI h))]) hx hb dX2_reportTo_71 hl (k := 1) rfl (nI_1 _) (by decide) rfl (fun ls hl => ?_)
              refine lv_goto (tgt := 12) hx hb dX2_reportTo_74 (by decide) ?_
              have e_11 : zIt (zRpS g h) (k + 1) τ = (zSd g τk k h).1 := by
                rw [zIt_s, hF_τk]
                first | with_reducible rfl | (simp only [zRpS, c_2, c_4, c_7, c_9, eq_self, ne_eq, not_true_eq_false, not_false_eq_true, and_true, true_and, and_self, and_false, false_and, true_or, or_true, false_or, or_false, reduceIte]; done) | (simp [zRpS, c_2, c_4, c_7, c_9]; done) | rfl | (simp_all [zRpS]; done)
              refine ih1 (k + 1) _ _ _ (by omega) (by omega) ?_ hS ?_
              · first | exact hN | (rw [e_11]; exact hN)
              · first | exact lv_sub hl [0, 2, 3, 4] rfl | (rw [e_11]; exact lv_sub hl [0, 2, 3, 4] rfl)
            · skip
              refine lv_aload_n hx hb dX2_reportTo_61 rfl (lv_at hl 2 rfl) ?_
              refine lv_dup hx hb dX2_reportTo_62 rfl ?_
              refine z_getS (v := .int (((zSd g τk k h).1) 9 h)) hx hb hts hown in_X2_reportTo_X3 hK hN12 hN (by omega) 10 (by decide) rfl (hts _ (List.mem_of_getElem? (i := 5) (by decide +kernel))) rfl dX2_reportTo_63 ?_
              refine lv_iconst (v := 1) hx hb dX2_reportTo_66 (by decide) ?_
              refine lv_iadd hx hb dX2_reportTo_67 ?_
              refine z_putS (v := .int ((((zSd g τk k h).1) 9 h) + 1)) (w := (((zSd g τk k h).1) 9 h) + 1) (ty := .int) hx hb hts hown in_X2_reportTo_X3 hK hA hS hN (by omega) 10 9 (by decide) rfl (by decide) (hts _ (List.mem_of_getElem? (i := 5) (by decide +kernel))) (by decide +kernel) rfl rfl rfl (fun τ => zSet10 τ _ _) dX2_reportTo_68 (fun H locs hN hS => ?_)
              refine lv_iinc (v := nI (k + 1)) (lv' := [(3, .int (nI (k + 1))), (4, .ref (ad (3 + k))), (2, .ref (ad (3 + h))), (0, .ref r), (1, .int (nI h))]) hx hb dX2_reportTo_71 hl (k := 1) rfl (nI_1 _) (by decide) rfl (fun ls hl => ?_)
              refine lv_goto (tgt := 12) hx hb dX2_reportTo_74 (by decide) ?_
              have e_12 : zIt (zRpS g h) (k + 1) τ = zSt ((zSd g τk k h).1) 9 h ((((zSd g τk k h).1) 9 h) + 1) := by
                rw [zIt_s, hF_τk]
                first | with_reducible rfl | (simp only [zRpS, c_2, c_4, c_7, c_10, eq_self, ne_eq, not_true_eq_false, not_false_eq_true, and_true, true_and, and_self, and_false, false_and, true_or, or_true, false_or, or_false, reduceIte]; done) | (simp [zRpS, c_2, c_4, c_7, c_10]; done) | rfl | (simp_all [zRpS]; done)
              refine ih1 (k + 1) _ _ _ (by omega) (by omega) ?_ hS ?_
              · first | exact hN | (rw [e_12]; exact hN)
              · first | exact lv_sub hl [0, 2, 3, 4] rfl | (rw [e_12]; exact lv_sub hl [0, 2, 3, 4] rfl)
  exact loop1 (n + 1) 0 _ _ _ (by omega) (by omega) hN hS (lv_sub hl [0, 1, 2, 3] rfl)

theorem in_X2_reportToHeads_X1 : ∀ w ∈ wsX10, w ∈ wsX2_reportToHeads := by decide +kernel
theorem in_X2_reportToHeads_X2 : ∀ w ∈ wsX20, w ∈ wsX2_reportToHeads := by decide +kernel
set_option maxHeartbeats 4000000 in
set_option maxRecDepth 100000 in
theorem c_X2_reportToHeads (l : Launch) (G : zG) (A : Nat → Prop) (ad : Nat → Nat) (n N : Nat) (g : Nat → Int32) (r : Nat) (hA : zAp G ad (zX r ad) A) (hnN : n ≤ N) (hN12 : N ≤ 12) (hd5 : 0 < g 5) (τ : zT) : zMv l G A yX2_reportToHeads wsX2_reportToHeads 3 70 [.ref r] (zNA G ad n N g (zX r ad) τ) (zNA G ad n N g (zX r ad) (zIt (zRhS n g) n τ)) := by
  refine z_met (cc := cX2_reportToHeads) (maxL := 2) (ret := none) (by decide) rfl (Nat.le_of_ble_eq_true rfl) ?_
  intro p e s m below meth c ls S hr hlk hnm hN hK hl
  have S : CallFix p m c cX2_reportToHeads 2 s _ wsX2_reportToHeads RX2 := S
  obtain ⟨hx, hb, hml, hown, hts⟩ := id S
  have hS : va_S A s.heap s.heap [] := va_S.rf
  have hl : lv_has ls 2 [(0, .ref r)] := hl
  refine lv_iconst (v := 0) hx hb dX2_reportToHeads_0 (by decide) ?_
  refine lv_istore_n (lv' := [(1, .int 0), (0, .ref r)]) hx hb dX2_reportToHeads_1 rfl hl (by decide) rfl (fun ls hl => ?_)
  have loop1 : ∀ (f1 h : Nat) (H : Heap) (locs : List Loc) (ls : Array Slot), h ≤ n → n < h + f1 → zNA G ad n N g (zX r ad) (zIt (zRhS n g) h τ) H → va_S A s.heap H locs → lv_has ls 2 [(1, .int (nI h)), (0, .ref r)] → W p l e ({ frames := 3, cells := 0, slots := 0, locals := 70 } : Room) s m ([.ref r] : List Value).toArray below meth c H locs 0 0 (MQ below (zQv G (zNA G ad n N g (zX r ad) (zIt (zRhS n g) n τ)) A) ([.ref r] : List Value).toArray s 0 0 A) (F0 m 2 ls []) := by
    intro f1
    induction f1 with
    | zero => intro h H locs ls h1 h2; exact absurd h2 (by omega)
    | succ f1 ih1 =>
      intro h H locs ls hk1 hf1 hN hS hl
      generalize hF_τh : zIt (zRhS n g) h τ = τh at hN hl 
      refine lv_iload_n hx hb dX2_reportToHeads_2 rfl (lv_at hl 0 rfl) ?_
      refine lv_aload_n hx hb dX2_reportToHeads_3 rfl (lv_at hl 1 rfl) ?_
      refine z_getR hx hb hts hown in_X2_reportToHeads_X2 hK hN (hts _ (List.mem_of_getElem? (i := 1) (by decide +kernel))) dX2_reportToHeads_4 ?_
      refine z_getO (v := .int (nI n)) hx hb hts hown in_X2_reportToHeads_X1 hK hN 2 (by decide) rfl (hts _ (List.mem_of_getElem? (i := 2) (by decide +kernel))) rfl dX2_reportToHeads_7 ?_
      refine lv_icmp_ge (tgt := 32) hx hb dX2_reportToHeads_10 (by decide) (fun c_1 => ?_) (fun c_2 => ?_)
      · skip
        have c_1 := (z_leI (a := n) (b := h) (by omega) (by omega)).mp c_1
        have hkn1 : h = n := by omega
        rw [hkn1] at hF_τh
        subst hF_τh
        exact z_vret hx hb hr hlk hK hS (hN.cast (by first | with_reducible rfl | (simp only [c_1, eq_self, ne_eq, not_true_eq_false, not_false_eq_true, and_true, true_and, and_self, and_false, false_and, true_or, or_true, false_or, or_false, reduceIte]; done) | (simp [c_1]; done) | rfl | (simp_all []; done))) dX2_reportToHeads_32
      · skip
        have c_2 := (not_congr (z_leI (a := n) (b := h) (by omega) (by omega))).mp c_2
        refine lv_aload_n hx hb dX2_reportToHeads_13 rfl (lv_at hl 1 rfl) ?_
        refine lv_iload_n hx hb dX2_reportToHeads_14 rfl (lv_at hl 0 rfl) ?_
        refine z_vi (As := [.int (nI h)]) (rest := []) (P2 := zNA G ad n N g (zX r ad) τh) (r := zBi (τh 7 h = nI h)) S (c_X2_isHead l G A ad n N g r hA hnN hN12  τh h (by omega)) (cwV 1 hts gX2_reportToHeads_X2_isHead rfl rfl rfl (by decide +kernel) ⟨Nat.le_of_ble_eq_true rfl, Nat.le_of_ble_eq_true rfl⟩) (z_recR hK hN) hN hK hS (fun _ _ h => h) (fun _ h => h) hl.1 rfl rfl (Nat.le_of_ble_eq_true rfl) dX2_reportToHeads_15 ⟨Nat.le_refl _, Nat.le_refl _⟩ (fun H locs hN hS _ => ?_)
        refine lv_if_eq (tgt := 26) hx hb dX2_reportToHeads_18 (by decide) (fun c_3 => ?_) (fun c_4 => ?_)
        · skip
          have c_3 := zBi_0.mp c_3
          refine lv_iinc (v := nI (h + 1)) (lv' := [(1, .int (nI (h + 1))), (0, .ref r)]) hx hb dX2_reportToHeads_26 hl (k := 0) rfl (nI_1 _) (by decide) rfl (fun ls hl => ?_)
          refine lv_goto (tgt := 2) hx hb dX2_reportToHeads_29 (by decide) ?_
          have e_5 : zIt (zRhS n g) (h + 1) τ = τh := by
            rw [zIt_s, hF_τh]
            first | with_reducible rfl | (simp only [zRhS, c_2, c_3, eq_self, ne_eq, not_true_eq_false, not_false_eq_true, and_true, true_and, and_self, and_false, false_and, true_or, or_true, false_or, or_false, reduceIte]; done) | (simp [zRhS, c_2, c_3]; done) | rfl | (simp_all [zRhS]; done)
          refine ih1 (h + 1) _ _ _ (by omega) (by omega) ?_ hS ?_
          · first | exact hN | (rw [e_5]; exact hN)
          · first | exact lv_sub hl [0, 1] rfl | (rw [e_5]; exact lv_sub hl [0, 1] rfl)
        · skip
          have c_4 := zBi_n0.mp c_4
          refine lv_aload_n hx hb dX2_reportToHeads_21 rfl (lv_at hl 1 rfl) ?_
          refine lv_iload_n hx hb dX2_reportToHeads_22 rfl (lv_at hl 0 rfl) ?_
          refine z_vv (As := [.int (nI h)]) (rest := []) (P2 := zNA G ad n N g (zX r ad) (zIt (zRpS g h) n τh)) S (c_X2_reportTo l G A ad n N g r hA hnN hN12 hd5 τh h (by omega)) (cwV 1 hts gX2_reportToHeads_X2_reportTo rfl rfl rfl (by decide +kernel) ⟨Nat.le_of_ble_eq_true rfl, Nat.le_of_ble_eq_true rfl⟩) (z_recR hK hN) hN hK hS (fun _ _ h => h) (fun _ h => h) hl.1 rfl rfl (Nat.le_of_ble_eq_true rfl) dX2_reportToHeads_23 ⟨Nat.le_refl _, Nat.le_refl _⟩ (fun H locs hN hS _ => ?_)
          refine lv_iinc (v := nI (h + 1)) (lv' := [(1, .int (nI (h + 1))), (0, .ref r)]) hx hb dX2_reportToHeads_26 hl (k := 0) rfl (nI_1 _) (by decide) rfl (fun ls hl => ?_)
          refine lv_goto (tgt := 2) hx hb dX2_reportToHeads_29 (by decide) ?_
          have e_6 : zIt (zRhS n g) (h + 1) τ = zIt (zRpS g h) n τh := by
            rw [zIt_s, hF_τh]
            first | with_reducible rfl | (simp only [zRhS, c_2, c_4, eq_self, ne_eq, not_true_eq_false, not_false_eq_true, and_true, true_and, and_self, and_false, false_and, true_or, or_true, false_or, or_false, reduceIte]; done) | (simp [zRhS, c_2, c_4]; done) | rfl | (simp_all [zRhS]; done)
          refine ih1 (h + 1) _ _ _ (by omega) (by omega) ?_ hS ?_
          · first | exact hN | (rw [e_6]; exact hN)
          · first | exact lv_sub hl [0, 1] rfl | (rw [e_6]; exact lv_sub hl [0, 1] rfl)
  exact loop1 (n + 1) 0 _ _ _ (by omega) (by omega) hN hS (lv_sub hl [0, 1] rfl)

theorem in_X2_addOwnReadings_X1 : ∀ w ∈ wsX10, w ∈ wsX2_addOwnReadings := by decide +kernel
theorem in_X2_addOwnReadings_X2 : ∀ w ∈ wsX20, w ∈ wsX2_addOwnReadings := by decide +kernel
theorem in_X2_addOwnReadings_X3 : ∀ w ∈ wsX30, w ∈ wsX2_addOwnReadings := by decide +kernel
set_option maxHeartbeats 4000000 in
set_option maxRecDepth 100000 in
theorem c_X2_addOwnReadings (l : Launch) (G : zG) (A : Nat → Prop) (ad : Nat → Nat) (n N : Nat) (g : Nat → Int32) (r : Nat) (hA : zAp G ad (zX r ad) A) (hnN : n ≤ N) (hN12 : N ≤ 12) (τ : zT) : zMv l G A yX2_addOwnReadings wsX2_addOwnReadings 1 22 [.ref r] (zNA G ad n N g (zX r ad) τ) (zNA G ad n N g (zX r ad) (zIt (zOwS g) n τ)) := by
  refine z_met (cc := cX2_addOwnReadings) (maxL := 3) (ret := none) (by decide) rfl (Nat.le_of_ble_eq_true rfl) ?_
  intro p e s m below meth c ls S hr hlk hnm hN hK hl
  have S : CallFix p m c cX2_addOwnReadings 3 s _ wsX2_addOwnReadings RX2 := S
  obtain ⟨hx, hb, hml, hown, hts⟩ := id S
  have hS : va_S A s.heap s.heap [] := va_S.rf
  have hl : lv_has ls 3 [(0, .ref r)] := hl
  refine lv_iconst (v := 0) hx hb dX2_addOwnReadings_0 (by decide) ?_
  refine lv_istore_n (lv' := [(1, .int 0), (0, .ref r)]) hx hb dX2_addOwnReadings_1 rfl hl (by decide) rfl (fun ls hl => ?_)
  have loop1 : ∀ (f1 h : Nat) (H : Heap) (locs : List Loc) (ls : Array Slot), h ≤ n → n < h + f1 → zNA G ad n N g (zX r ad) (zIt (zOwS g) h τ) H → va_S A s.heap H locs → lv_has ls 3 [(1, .int (nI h)), (0, .ref r)] → W p l e ({ frames := 1, cells := 0, slots := 0, locals := 22 } : Room) s m ([.ref r] : List Value).toArray below meth c H locs 0 0 (MQ below (zQv G (zNA G ad n N g (zX r ad) (zIt (zOwS g) n τ)) A) ([.ref r] : List Value).toArray s 0 0 A) (F0 m 2 ls []) := by
    intro f1
    induction f1 with
    | zero => intro h H locs ls h1 h2; exact absurd h2 (by omega)
    | succ f1 ih1 =>
      intro h H locs ls hk1 hf1 hN hS hl
      generalize hF_τh : zIt (zOwS g) h τ = τh at hN hl 
      refine lv_iload_n hx hb dX2_addOwnReadings_2 rfl (lv_at hl 0 rfl) ?_
      refine lv_aload_n hx hb dX2_addOwnReadings_3 rfl (lv_at hl 1 rfl) ?_
      refine z_getR hx hb hts hown in_X2_addOwnReadings_X2 hK hN (hts _ (List.mem_of_getElem? (i := 1) (by decide +kernel))) dX2_addOwnReadings_4 ?_
      refine z_getO (v := .int (nI n)) hx hb hts hown in_X2_addOwnReadings_X1 hK hN 2 (by decide) rfl (hts _ (List.mem_of_getElem? (i := 2) (by decide +kernel))) rfl dX2_addOwnReadings_7 ?_
      refine lv_icmp_ge (tgt := 64) hx hb dX2_addOwnReadings_10 (by decide) (fun c_1 => ?_) (fun c_2 => ?_)
      · skip
        have c_1 := (z_leI (a := n) (b := h) (by omega) (by omega)).mp c_1
        have hkn1 : h = n := by omega
        rw [hkn1] at hF_τh
        subst hF_τh
        exact z_vret hx hb hr hlk hK hS (hN.cast (by first | with_reducible rfl | (simp only [c_1, eq_self, ne_eq, not_true_eq_false, not_false_eq_true, and_true, true_and, and_self, and_false, false_and, true_or, or_true, false_or, or_false, reduceIte]; done) | (simp [c_1]; done) | rfl | (simp_all []; done))) dX2_addOwnReadings_64
      · skip
        have c_2 := (not_congr (z_leI (a := n) (b := h) (by omega) (by omega))).mp c_2
        refine lv_aload_n hx hb dX2_addOwnReadings_13 rfl (lv_at hl 1 rfl) ?_
        refine z_getR hx hb hts hown in_X2_addOwnReadings_X2 hK hN (hts _ (List.mem_of_getElem? (i := 1) (by decide +kernel))) dX2_addOwnReadings_14 ?_
        refine z_getO (v := .ref (ad 1)) hx hb hts hown in_X2_addOwnReadings_X1 hK hN 0 (by decide) rfl (hts _ (List.mem_of_getElem? (i := 3) (by decide +kernel))) rfl dX2_addOwnReadings_17 ?_
        refine lv_iload_n hx hb dX2_addOwnReadings_20 rfl (lv_at hl 0 rfl) ?_
        refine z_aald (i := h) hx hb hK hN rfl (by omega) dX2_addOwnReadings_21 ?_
        refine lv_astore_n (lv' := [(2, .ref (ad (3 + h))), (1, .int (nI h)), (0, .ref r)]) hx hb dX2_addOwnReadings_22 rfl hl (by decide) rfl (fun ls hl => ?_)
        refine lv_aload_n hx hb dX2_addOwnReadings_23 rfl (lv_at hl 2 rfl) ?_
        refine lv_iload_n hx hb dX2_addOwnReadings_24 rfl (lv_at hl 1 rfl) ?_
        refine z_vi (As := [.int (nI h)]) (rest := []) (P2 := zNA G ad n N g (zX r ad) τh) (r := zBi (τh 3 h = 1 ∧ τh 7 h = nI h)) S (c_X2_isLivingHead l G A ad n N g r hA hnN hN12  τh h (by omega)) (cwV 1 hts gX2_addOwnReadings_X2_isLivingHead rfl rfl rfl (by decide +kernel) ⟨Nat.le_of_ble_eq_true rfl, Nat.le_of_ble_eq_true rfl⟩) (z_recR hK hN) hN hK hS (fun _ _ h => h) (fun _ h => h) hl.1 rfl rfl (Nat.le_of_ble_eq_true rfl) dX2_addOwnReadings_25 ⟨Nat.le_refl _, Nat.le_refl _⟩ (fun H locs hN hS _ => ?_)
        refine lv_if_eq (tgt := 58) hx hb dX2_addOwnReadings_28 (by decide) (fun c_3 => ?_) (fun c_4 => ?_)
        · skip
          have c_3 := zBi_0.mp c_3
          refine lv_iinc (v := nI (h + 1)) (lv' := [(1, .int (nI (h + 1))), (2, .ref (ad (3 + h))), (0, .ref r)]) hx hb dX2_addOwnReadings_58 hl (k := 1) rfl (nI_1 _) (by decide) rfl (fun ls hl => ?_)
          refine lv_goto (tgt := 2) hx hb dX2_addOwnReadings_61 (by decide) ?_
          have e_5 : zIt (zOwS g) (h + 1) τ = τh := by
            rw [zIt_s, hF_τh]
            first | with_reducible rfl | (simp only [zOwS, zPay, zPd, zSt_ap, c_2, c_3, eq_self, ne_eq, not_true_eq_false, not_false_eq_true, and_true, true_and, and_self, and_false, false_and, true_or, or_true, false_or, or_false, reduceIte]; done) | (simp [zOwS, zPay, zPd, zSt_ap, c_2, c_3]; done) | rfl | (simp_all [zOwS, zPay, zPd, zSt_ap]; done)
          refine ih1 (h + 1) _ _ _ (by omega) (by omega) ?_ hS ?_
          · first | exact hN | (rw [e_5]; exact hN)
          · first | exact lv_sub hl [0, 2] rfl | (rw [e_5]; exact lv_sub hl [0, 2] rfl)
        · skip
          have c_4 := zBi_n0.mp c_4
          refine lv_aload_n hx hb dX2_addOwnReadings_31 rfl (lv_at hl 2 rfl) ?_
          refine lv_aload_n hx hb dX2_addOwnReadings_32 rfl (lv_at hl 0 rfl) ?_
          refine lv_aload_n hx hb dX2_addOwnReadings_33 rfl (lv_at hl 2 rfl) ?_
          refine z_getR hx hb hts hown in_X2_addOwnReadings_X2 hK hN (hts _ (List.mem_of_getElem? (i := 1) (by decide +kernel))) dX2_addOwnReadings_34 ?_
          refine z_getO (v := .ref (ad 2)) hx hb hts hown in_X2_addOwnReadings_X1 hK hN 1 (by decide) rfl (hts _ (List.mem_of_getElem? (i := 4) (by decide +kernel))) rfl dX2_addOwnReadings_37 ?_
          refine lv_iconst (v := 3) hx hb dX2_addOwnReadings_40 (by decide) ?_
          refine z_iald (w := g 6) hx hb hK hN 3 (by decide) (by decide) rfl dX2_addOwnReadings_41 ?_
          refine z_vi (As := [.ref (ad (3 + h)), .int (g 6)]) (rest := []) (P2 := zNA G ad n N g (zX r ad) (zPay τh h (g 6))) (r := zBi (¬ τh 2 h < (g 6))) S (c_X2_pays l G A ad n N g r hA hnN hN12  τh h (by omega) (g 6)) (cwV 2 hts gX2_addOwnReadings_X2_pays rfl rfl rfl (by decide +kernel) ⟨Nat.le_of_ble_eq_true rfl, Nat.le_of_ble_eq_true rfl⟩) (z_recR hK hN) hN hK hS (fun _ _ h => h) (fun _ h => h) hl.1 rfl rfl (Nat.le_of_ble_eq_true rfl) dX2_addOwnReadings_42 ⟨Nat.le_refl _, Nat.le_refl _⟩ (fun H locs hN hS _ => ?_)
          refine lv_if_eq (tgt := 58) hx hb dX2_addOwnReadings_45 (by decide) (fun c_6 => ?_) (fun c_7 => ?_)
          · skip
            have c_6 := zBi_0.mp c_6
            have c_6 := Decidable.of_not_not c_6
            have hN := hN.cast (zPay_n c_6)
            refine lv_iinc (v := nI (h + 1)) (lv' := [(1, .int (nI (h + 1))), (2, .ref (ad (3 + h))), (0, .ref r)]) hx hb dX2_addOwnReadings_58 hl (k := 1) rfl (nI_1 _) (by decide) rfl (fun ls hl => ?_)
            refine lv_goto (tgt := 2) hx hb dX2_addOwnReadings_61 (by decide) ?_
            have e_8 : zIt (zOwS g) (h + 1) τ = zDie τh h := by
              rw [zIt_s, hF_τh]
              first | with_reducible rfl | (simp only [zOwS, zPay, zPd, zSt_ap, c_2, c_4, c_6, eq_self, ne_eq, not_true_eq_false, not_false_eq_true, and_true, true_and, and_self, and_false, false_and, true_or, or_true, false_or, or_false, reduceIte]; done) | (simp [zOwS, zPay, zPd, zSt_ap, c_2, c_4, c_6]; done) | rfl | (simp_all [zOwS, zPay, zPd, zSt_ap]; done)
            refine ih1 (h + 1) _ _ _ (by omega) (by omega) ?_ hS ?_
            · first | exact hN | (rw [e_8]; exact hN)
            · first | exact lv_sub hl [0, 2] rfl | (rw [e_8]; exact lv_sub hl [0, 2] rfl)
          · skip
            have c_7 := zBi_n0.mp c_7
            have hN := hN.cast (zPay_y c_7)
            refine lv_aload_n hx hb dX2_addOwnReadings_48 rfl (lv_at hl 0 rfl) ?_
            refine lv_dup hx hb dX2_addOwnReadings_49 rfl ?_
            refine z_getS (v := .int ((zPd τh h (g 6)) 9 h)) hx hb hts hown in_X2_addOwnReadings_X3 hK hN12 hN (by omega) 10 (by decide) rfl (hts _ (List.mem_of_getElem? (i := 5) (by decide +kernel))) rfl dX2_addOwnReadings_50 ?_
            refine lv_iconst (v := 1) hx hb dX2_addOwnReadings_53 (by decide) ?_
            refine lv_iadd hx hb dX2_addOwnReadings_54 ?_
            refine z_putS (v := .int (((zPd τh h (g 6)) 9 h) + 1)) (w := ((zPd τh h (g 6)) 9 h) + 1) (ty := .int) hx hb hts hown in_X2_addOwnReadings_X3 hK hA hS hN (by omega) 10 9 (by decide) rfl (by decide) (hts _ (List.mem_of_getElem? (i := 5) (by decide +kernel))) (by decide +kernel) rfl rfl rfl (fun τ => zSet10 τ _ _) dX2_addOwnReadings_55 (fun H locs hN hS => ?_)
            refine lv_iinc (v := nI (h + 1)) (lv' := [(1, .int (nI (h + 1))), (2, .ref (ad (3 + h))), (0, .ref r)]) hx hb dX2_addOwnReadings_58 hl (k := 1) rfl (nI_1 _) (by decide) rfl (fun ls hl => ?_)
            refine lv_goto (tgt := 2) hx hb dX2_addOwnReadings_61 (by decide) ?_
            have e_9 : zIt (zOwS g) (h + 1) τ = zSt (zPd τh h (g 6)) 9 h (((zPd τh h (g 6)) 9 h) + 1) := by
              rw [zIt_s, hF_τh]
              first | with_reducible rfl | (simp only [zOwS, zPay, zPd, zSt_ap, c_2, c_4, c_7, eq_self, ne_eq, not_true_eq_false, not_false_eq_true, and_true, true_and, and_self, and_false, false_and, true_or, or_true, false_or, or_false, reduceIte]; done) | (simp [zOwS, zPay, zPd, zSt_ap, c_2, c_4, c_7]; done) | rfl | (simp_all [zOwS, zPay, zPd, zSt_ap]; done)
            refine ih1 (h + 1) _ _ _ (by omega) (by omega) ?_ hS ?_
            · first | exact hN | (rw [e_9]; exact hN)
            · first | exact lv_sub hl [0, 2] rfl | (rw [e_9]; exact lv_sub hl [0, 2] rfl)
  exact loop1 (n + 1) 0 _ _ _ (by omega) (by omega) hN hS (lv_sub hl [0, 1] rfl)

theorem in_X2_sendToBase_X1 : ∀ w ∈ wsX10, w ∈ wsX2_sendToBase := by decide +kernel
theorem in_X2_sendToBase_X2 : ∀ w ∈ wsX20, w ∈ wsX2_sendToBase := by decide +kernel
set_option maxHeartbeats 4000000 in
set_option maxRecDepth 100000 in
theorem c_X2_sendToBase (l : Launch) (G : zG) (A : Nat → Prop) (ad : Nat → Nat) (n N : Nat) (g : Nat → Int32) (r : Nat) (hA : zAp G ad (zX r ad) A) (hnN : n ≤ N) (hN12 : N ≤ 12) (hd5 : 0 < g 5) (τ : zT) (i : Nat) (hi : i < N) (w : Int32) : zMv l G A yX2_sendToBase wsX2_sendToBase 1 24 [.ref r, .ref (ad (3 + i)), .int w] (zNA G ad n N g (zX r ad) τ) (zNA G ad n N g (zX r ad) (zSb g τ i w)) := by
  refine z_met (cc := cX2_sendToBase) (maxL := 3) (ret := none) (by decide) rfl (Nat.le_of_ble_eq_true rfl) ?_
  intro p e s m below meth c ls S hr hlk hnm hN hK hl
  have S : CallFix p m c cX2_sendToBase 3 s _ wsX2_sendToBase RX2 := S
  obtain ⟨hx, hb, hml, hown, hts⟩ := id S
  have hS : va_S A s.heap s.heap [] := va_S.rf
  have hl : lv_has ls 3 [(0, .ref r), (1, .ref (ad (3 + i))), (2, .int w)] := hl
  refine lv_aload_n hx hb dX2_sendToBase_0 rfl (lv_at hl 0 rfl) ?_
  refine lv_aload_n hx hb dX2_sendToBase_1 rfl (lv_at hl 1 rfl) ?_
  refine lv_aload_n hx hb dX2_sendToBase_2 rfl (lv_at hl 0 rfl) ?_
  refine z_getR hx hb hts hown in_X2_sendToBase_X2 hK hN (hts _ (List.mem_of_getElem? (i := 1) (by decide +kernel))) dX2_sendToBase_3 ?_
  refine lv_aload_n hx hb dX2_sendToBase_6 rfl (lv_at hl 1 rfl) ?_
  refine lv_aload_n hx hb dX2_sendToBase_7 rfl (lv_at hl 0 rfl) ?_
  refine z_getR hx hb hts hown in_X2_sendToBase_X2 hK hN (hts _ (List.mem_of_getElem? (i := 1) (by decide +kernel))) dX2_sendToBase_8 ?_
  refine z_getO (v := .int (g 1)) hx hb hts hown in_X2_sendToBase_X1 hK hN 3 (by decide) rfl (hts _ (List.mem_of_getElem? (i := 2) (by decide +kernel))) rfl dX2_sendToBase_11 ?_
  refine lv_aload_n hx hb dX2_sendToBase_14 rfl (lv_at hl 0 rfl) ?_
  refine z_getR hx hb hts hown in_X2_sendToBase_X2 hK hN (hts _ (List.mem_of_getElem? (i := 1) (by decide +kernel))) dX2_sendToBase_15 ?_
  refine z_getO (v := .int (g 2)) hx hb hts hown in_X2_sendToBase_X1 hK hN 4 (by decide) rfl (hts _ (List.mem_of_getElem? (i := 3) (by decide +kernel))) rfl dX2_sendToBase_18 ?_
  refine z_vi (As := [.int (g 1), .int (g 2)]) (rest := [.ref (ad 0), .ref (ad (3 + i)), .ref r]) (P2 := zNA G ad n N g (zX r ad) τ) (r := zDi (τ 0 i) (τ 1 i) (g 1) (g 2)) S (c_X3_distanceTo l G A ad n N g (zX r ad) hA hnN hN12  τ i (by omega) (g 1) (g 2)) (cwV 2 hts gX2_sendToBase_X3_distanceTo rfl rfl rfl (by decide +kernel) ⟨Nat.le_of_ble_eq_true rfl, Nat.le_of_ble_eq_true rfl⟩) (z_recS hK hN (by omega)) hN hK hS (fun _ _ h => h) (fun _ h => h) hl.1 rfl rfl (Nat.le_of_ble_eq_true rfl) dX2_sendToBase_21 ⟨Nat.le_refl _, Nat.le_refl _⟩ (fun H locs hN hS _ => ?_)
  refine z_vi (As := [.int (zDi (τ 0 i) (τ 1 i) (g 1) (g 2))]) (rest := [.ref (ad (3 + i)), .ref r]) (P2 := zNA G ad n N g (zX r ad) τ) (r := zCo g (zDi (τ 0 i) (τ 1 i) (g 1) (g 2))) S (c_X1_costOver l G A ad n N g (zX r ad) hA hnN hN12 hd5 τ (zDi (τ 0 i) (τ 1 i) (g 1) (g 2))) (cwV 1 hts gX2_sendToBase_X1_costOver rfl rfl rfl (by decide +kernel) ⟨Nat.le_of_ble_eq_true rfl, Nat.le_of_ble_eq_true rfl⟩) (z_recN hK hN) hN hK hS (fun _ _ h => h) (fun _ h => h) hl.1 rfl rfl (Nat.le_of_ble_eq_true rfl) dX2_sendToBase_24 ⟨Nat.le_refl _, Nat.le_refl _⟩ (fun H locs hN hS _ => ?_)
  refine z_vi (As := [.ref (ad (3 + i)), .int (zCo g (zDi (τ 0 i) (τ 1 i) (g 1) (g 2)))]) (rest := []) (P2 := zNA G ad n N g (zX r ad) (zPay τ i (zCo g (zDi (τ 0 i) (τ 1 i) (g 1) (g 2))))) (r := zBi (¬ τ 2 i < (zCo g (zDi (τ 0 i) (τ 1 i) (g 1) (g 2))))) S (c_X2_pays l G A ad n N g r hA hnN hN12  τ i (by omega) (zCo g (zDi (τ 0 i) (τ 1 i) (g 1) (g 2)))) (cwV 2 hts gX2_sendToBase_X2_pays rfl rfl rfl (by decide +kernel) ⟨Nat.le_of_ble_eq_true rfl, Nat.le_of_ble_eq_true rfl⟩) (z_recR hK hN) hN hK hS (fun _ _ h => h) (fun _ h => h) hl.1 rfl rfl (Nat.le_of_ble_eq_true rfl) dX2_sendToBase_27 ⟨Nat.le_refl _, Nat.le_refl _⟩ (fun H locs hN hS _ => ?_)
  refine lv_if_eq (tgt := 46) hx hb dX2_sendToBase_30 (by decide) (fun c_1 => ?_) (fun c_2 => ?_)
  · skip
    have c_1 := zBi_0.mp c_1
    have c_1 := Decidable.of_not_not c_1
    have hN := hN.cast (zPay_n c_1)
    exact z_vret hx hb hr hlk hK hS (hN.cast (by first | with_reducible rfl | (simp only [zSb, zPay, zDb, zPd, zSt_ap, c_1, eq_self, ne_eq, not_true_eq_false, not_false_eq_true, and_true, true_and, and_self, and_false, false_and, true_or, or_true, false_or, or_false, reduceIte]; done) | (simp [zSb, zPay, zDb, zPd, zSt_ap, c_1]; done) | rfl | (simp_all [zSb, zPay, zDb, zPd, zSt_ap]; done))) dX2_sendToBase_46
  · skip
    have c_2 := zBi_n0.mp c_2
    have hN := hN.cast (zPay_y c_2)
    refine lv_aload_n hx hb dX2_sendToBase_33 rfl (lv_at hl 0 rfl) ?_
    refine z_getR hx hb hts hown in_X2_sendToBase_X2 hK hN (hts _ (List.mem_of_getElem? (i := 1) (by decide +kernel))) dX2_sendToBase_34 ?_
    refine lv_dup hx hb dX2_sendToBase_37 rfl ?_
    refine z_getO (v := .int ((zPd τ i (zCo g (zDi (τ 0 i) (τ 1 i) (g 1) (g 2)))) 11 12)) hx hb hts hown in_X2_sendToBase_X1 hK hN 8 (by decide) rfl (hts _ (List.mem_of_getElem? (i := 4) (by decide +kernel))) rfl dX2_sendToBase_38 ?_
    refine lv_iload_n hx hb dX2_sendToBase_41 rfl (lv_at hl 2 rfl) ?_
    refine lv_iadd hx hb dX2_sendToBase_42 ?_
    refine z_putO (w := ((zPd τ i (zCo g (zDi (τ 0 i) (τ 1 i) (g 1) (g 2)))) 11 12) + w) hx hb hts hown in_X2_sendToBase_X1 hK hA hS hN 8 12 (by decide) rfl (hts _ (List.mem_of_getElem? (i := 4) (by decide +kernel))) (by decide +kernel) rfl (fun τ => zObs8 ad n g τ _) dX2_sendToBase_43 (fun H locs hN hS => ?_)
    exact z_vret hx hb hr hlk hK hS (hN.cast (by first | with_reducible rfl | (simp only [zSb, zPay, zDb, zPd, zSt_ap, c_2, eq_self, ne_eq, not_true_eq_false, not_false_eq_true, and_true, true_and, and_self, and_false, false_and, true_or, or_true, false_or, or_false, reduceIte]; done) | (simp [zSb, zPay, zDb, zPd, zSt_ap, c_2]; done) | rfl | (simp_all [zSb, zPay, zDb, zPd, zSt_ap]; done))) dX2_sendToBase_46

theorem in_X2_reportToBase_X1 : ∀ w ∈ wsX10, w ∈ wsX2_reportToBase := by decide +kernel
theorem in_X2_reportToBase_X2 : ∀ w ∈ wsX20, w ∈ wsX2_reportToBase := by decide +kernel
theorem in_X2_reportToBase_X3 : ∀ w ∈ wsX30, w ∈ wsX2_reportToBase := by decide +kernel
set_option maxHeartbeats 4000000 in
set_option maxRecDepth 100000 in
theorem c_X2_reportToBase (l : Launch) (G : zG) (A : Nat → Prop) (ad : Nat → Nat) (n N : Nat) (g : Nat → Int32) (r : Nat) (hA : zAp G ad (zX r ad) A) (hnN : n ≤ N) (hN12 : N ≤ 12) (hd5 : 0 < g 5) (τ : zT) : zMv l G A yX2_reportToBase wsX2_reportToBase 2 46 [.ref r] (zNA G ad n N g (zX r ad) τ) (zNA G ad n N g (zX r ad) (zIt (zRbS g) n τ)) := by
  refine z_met (cc := cX2_reportToBase) (maxL := 3) (ret := none) (by decide) rfl (Nat.le_of_ble_eq_true rfl) ?_
  intro p e s m below meth c ls S hr hlk hnm hN hK hl
  have S : CallFix p m c cX2_reportToBase 3 s _ wsX2_reportToBase RX2 := S
  obtain ⟨hx, hb, hml, hown, hts⟩ := id S
  have hS : va_S A s.heap s.heap [] := va_S.rf
  have hl : lv_has ls 3 [(0, .ref r)] := hl
  refine lv_iconst (v := 0) hx hb dX2_reportToBase_0 (by decide) ?_
  refine lv_istore_n (lv' := [(1, .int 0), (0, .ref r)]) hx hb dX2_reportToBase_1 rfl hl (by decide) rfl (fun ls hl => ?_)
  have loop1 : ∀ (f1 k : Nat) (H : Heap) (locs : List Loc) (ls : Array Slot), k ≤ n → n < k + f1 → zNA G ad n N g (zX r ad) (zIt (zRbS g) k τ) H → va_S A s.heap H locs → lv_has ls 3 [(1, .int (nI k)), (0, .ref r)] → W p l e ({ frames := 2, cells := 0, slots := 0, locals := 46 } : Room) s m ([.ref r] : List Value).toArray below meth c H locs 0 0 (MQ below (zQv G (zNA G ad n N g (zX r ad) (zIt (zRbS g) n τ)) A) ([.ref r] : List Value).toArray s 0 0 A) (F0 m 2 ls []) := by
    intro f1
    induction f1 with
    | zero => intro k H locs ls h1 h2; exact absurd h2 (by omega)
    | succ f1 ih1 =>
      intro k H locs ls hk1 hf1 hN hS hl
      generalize hF_τk : zIt (zRbS g) k τ = τk at hN hl 
      refine lv_iload_n hx hb dX2_reportToBase_2 rfl (lv_at hl 0 rfl) ?_
      refine lv_aload_n hx hb dX2_reportToBase_3 rfl (lv_at hl 1 rfl) ?_
      refine z_getR hx hb hts hown in_X2_reportToBase_X2 hK hN (hts _ (List.mem_of_getElem? (i := 1) (by decide +kernel))) dX2_reportToBase_4 ?_
      refine z_getO (v := .int (nI n)) hx hb hts hown in_X2_reportToBase_X1 hK hN 2 (by decide) rfl (hts _ (List.mem_of_getElem? (i := 2) (by decide +kernel))) rfl dX2_reportToBase_7 ?_
      refine lv_icmp_ge (tgt := 42) hx hb dX2_reportToBase_10 (by decide) (fun c_1 => ?_) (fun c_2 => ?_)
      · skip
        have c_1 := (z_leI (a := n) (b := k) (by omega) (by omega)).mp c_1
        have hkn1 : k = n := by omega
        rw [hkn1] at hF_τk
        subst hF_τk
        exact z_vret hx hb hr hlk hK hS (hN.cast (by first | with_reducible rfl | (simp only [c_1, eq_self, ne_eq, not_true_eq_false, not_false_eq_true, and_true, true_and, and_self, and_false, false_and, true_or, or_true, false_or, or_false, reduceIte]; done) | (simp [c_1]; done) | rfl | (simp_all []; done))) dX2_reportToBase_42
      · skip
        have c_2 := (not_congr (z_leI (a := n) (b := k) (by omega) (by omega))).mp c_2
        refine lv_aload_n hx hb dX2_reportToBase_13 rfl (lv_at hl 1 rfl) ?_
        refine z_getR hx hb hts hown in_X2_reportToBase_X2 hK hN (hts _ (List.mem_of_getElem? (i := 1) (by decide +kernel))) dX2_reportToBase_14 ?_
        refine z_getO (v := .ref (ad 1)) hx hb hts hown in_X2_reportToBase_X1 hK hN 0 (by decide) rfl (hts _ (List.mem_of_getElem? (i := 3) (by decide +kernel))) rfl dX2_reportToBase_17 ?_
        refine lv_iload_n hx hb dX2_reportToBase_20 rfl (lv_at hl 0 rfl) ?_
        refine z_aald (i := k) hx hb hK hN rfl (by omega) dX2_reportToBase_21 ?_
        refine lv_astore_n (lv' := [(2, .ref (ad (3 + k))), (1, .int (nI k)), (0, .ref r)]) hx hb dX2_reportToBase_22 rfl hl (by decide) rfl (fun ls hl => ?_)
        refine lv_aload_n hx hb dX2_reportToBase_23 rfl (lv_at hl 0 rfl) ?_
        refine z_getS (v := .int (zBi (τk 3 k = 1))) hx hb hts hown in_X2_reportToBase_X3 hK hN12 hN (by omega) 3 (by decide) rfl (hts _ (List.mem_of_getElem? (i := 4) (by decide +kernel))) rfl dX2_reportToBase_24 ?_
        refine lv_if_eq (tgt := 36) hx hb dX2_reportToBase_27 (by decide) (fun c_3 => ?_) (fun c_4 => ?_)
        · skip
          have c_3 := zBi_0.mp c_3
          refine lv_iinc (v := nI (k + 1)) (lv' := [(1, .int (nI (k + 1))), (2, .ref (ad (3 + k))), (0, .ref r)]) hx hb dX2_reportToBase_36 hl (k := 1) rfl (nI_1 _) (by decide) rfl (fun ls hl => ?_)
          refine lv_goto (tgt := 2) hx hb dX2_reportToBase_39 (by decide) ?_
          have e_5 : zIt (zRbS g) (k + 1) τ = τk := by
            rw [zIt_s, hF_τk]
            first | with_reducible rfl | (simp only [zRbS, c_2, c_3, eq_self, ne_eq, not_true_eq_false, not_false_eq_true, and_true, true_and, and_self, and_false, false_and, true_or, or_true, false_or, or_false, reduceIte]; done) | (simp [zRbS, c_2, c_3]; done) | rfl | (simp_all [zRbS]; done)
          refine ih1 (k + 1) _ _ _ (by omega) (by omega) ?_ hS ?_
          · first | exact hN | (rw [e_5]; exact hN)
          · first | exact lv_sub hl [0, 2] rfl | (rw [e_5]; exact lv_sub hl [0, 2] rfl)
        · skip
          have c_4 := zBi_n0.mp c_4
          refine lv_aload_n hx hb dX2_reportToBase_30 rfl (lv_at hl 2 rfl) ?_
          refine lv_aload_n hx hb dX2_reportToBase_31 rfl (lv_at hl 0 rfl) ?_
          refine lv_iconst (v := 1) hx hb dX2_reportToBase_32 (by decide) ?_
          refine z_vv (As := [.ref (ad (3 + k)), .int 1]) (rest := []) (P2 := zNA G ad n N g (zX r ad) (zSb g τk k 1)) S (c_X2_sendToBase l G A ad n N g r hA hnN hN12 hd5 τk k (by omega) 1) (cwV 2 hts gX2_reportToBase_X2_sendToBase rfl rfl rfl (by decide +kernel) ⟨Nat.le_of_ble_eq_true rfl, Nat.le_of_ble_eq_true rfl⟩) (z_recR hK hN) hN hK hS (fun _ _ h => h) (fun _ h => h) hl.1 rfl rfl (Nat.le_of_ble_eq_true rfl) dX2_reportToBase_33 ⟨Nat.le_refl _, Nat.le_refl _⟩ (fun H locs hN hS _ => ?_)
          refine lv_iinc (v := nI (k + 1)) (lv' := [(1, .int (nI (k + 1))), (2, .ref (ad (3 + k))), (0, .ref r)]) hx hb dX2_reportToBase_36 hl (k := 1) rfl (nI_1 _) (by decide) rfl (fun ls hl => ?_)
          refine lv_goto (tgt := 2) hx hb dX2_reportToBase_39 (by decide) ?_
          have e_6 : zIt (zRbS g) (k + 1) τ = zSb g τk k 1 := by
            rw [zIt_s, hF_τk]
            first | with_reducible rfl | (simp only [zRbS, c_2, c_4, eq_self, ne_eq, not_true_eq_false, not_false_eq_true, and_true, true_and, and_self, and_false, false_and, true_or, or_true, false_or, or_false, reduceIte]; done) | (simp [zRbS, c_2, c_4]; done) | rfl | (simp_all [zRbS]; done)
          refine ih1 (k + 1) _ _ _ (by omega) (by omega) ?_ hS ?_
          · first | exact hN | (rw [e_6]; exact hN)
          · first | exact lv_sub hl [0, 2] rfl | (rw [e_6]; exact lv_sub hl [0, 2] rfl)
  exact loop1 (n + 1) 0 _ _ _ (by omega) (by omega) hN hS (lv_sub hl [0, 1] rfl)

theorem in_X2_deliverDirectly_X1 : ∀ w ∈ wsX10, w ∈ wsX2_deliverDirectly := by decide +kernel
theorem in_X2_deliverDirectly_X2 : ∀ w ∈ wsX20, w ∈ wsX2_deliverDirectly := by decide +kernel
theorem in_X2_deliverDirectly_X3 : ∀ w ∈ wsX30, w ∈ wsX2_deliverDirectly := by decide +kernel
set_option maxHeartbeats 4000000 in
set_option maxRecDepth 100000 in
theorem c_X2_deliverDirectly (l : Launch) (G : zG) (A : Nat → Prop) (ad : Nat → Nat) (n N : Nat) (g : Nat → Int32) (r : Nat) (hA : zAp G ad (zX r ad) A) (hnN : n ≤ N) (hN12 : N ≤ 12) (hd5 : 0 < g 5) (τ : zT) : zMv l G A yX2_deliverDirectly wsX2_deliverDirectly 2 46 [.ref r] (zNA G ad n N g (zX r ad) τ) (zNA G ad n N g (zX r ad) (zIt (zDdS g) n τ)) := by
  refine z_met (cc := cX2_deliverDirectly) (maxL := 3) (ret := none) (by decide) rfl (Nat.le_of_ble_eq_true rfl) ?_
  intro p e s m below meth c ls S hr hlk hnm hN hK hl
  have S : CallFix p m c cX2_deliverDirectly 3 s _ wsX2_deliverDirectly RX2 := S
  obtain ⟨hx, hb, hml, hown, hts⟩ := id S
  have hS : va_S A s.heap s.heap [] := va_S.rf
  have hl : lv_has ls 3 [(0, .ref r)] := hl
  refine lv_iconst (v := 0) hx hb dX2_deliverDirectly_0 (by decide) ?_
  refine lv_istore_n (lv' := [(1, .int 0), (0, .ref r)]) hx hb dX2_deliverDirectly_1 rfl hl (by decide) rfl (fun ls hl => ?_)
  have loop1 : ∀ (f1 h : Nat) (H : Heap) (locs : List Loc) (ls : Array Slot), h ≤ n → n < h + f1 → zNA G ad n N g (zX r ad) (zIt (zDdS g) h τ) H → va_S A s.heap H locs → lv_has ls 3 [(1, .int (nI h)), (0, .ref r)] → W p l e ({ frames := 2, cells := 0, slots := 0, locals := 46 } : Room) s m ([.ref r] : List Value).toArray below meth c H locs 0 0 (MQ below (zQv G (zNA G ad n N g (zX r ad) (zIt (zDdS g) n τ)) A) ([.ref r] : List Value).toArray s 0 0 A) (F0 m 2 ls []) := by
    intro f1
    induction f1 with
    | zero => intro h H locs ls h1 h2; exact absurd h2 (by omega)
    | succ f1 ih1 =>
      intro h H locs ls hk1 hf1 hN hS hl
      generalize hF_τh : zIt (zDdS g) h τ = τh at hN hl 
      refine lv_iload_n hx hb dX2_deliverDirectly_2 rfl (lv_at hl 0 rfl) ?_
      refine lv_aload_n hx hb dX2_deliverDirectly_3 rfl (lv_at hl 1 rfl) ?_
      refine z_getR hx hb hts hown in_X2_deliverDirectly_X2 hK hN (hts _ (List.mem_of_getElem? (i := 1) (by decide +kernel))) dX2_deliverDirectly_4 ?_
      refine z_getO (v := .int (nI n)) hx hb hts hown in_X2_deliverDirectly_X1 hK hN 2 (by decide) rfl (hts _ (List.mem_of_getElem? (i := 2) (by decide +kernel))) rfl dX2_deliverDirectly_7 ?_
      refine lv_icmp_ge (tgt := 46) hx hb dX2_deliverDirectly_10 (by decide) (fun c_1 => ?_) (fun c_2 => ?_)
      · skip
        have c_1 := (z_leI (a := n) (b := h) (by omega) (by omega)).mp c_1
        have hkn1 : h = n := by omega
        rw [hkn1] at hF_τh
        subst hF_τh
        exact z_vret hx hb hr hlk hK hS (hN.cast (by first | with_reducible rfl | (simp only [c_1, eq_self, ne_eq, not_true_eq_false, not_false_eq_true, and_true, true_and, and_self, and_false, false_and, true_or, or_true, false_or, or_false, reduceIte]; done) | (simp [c_1]; done) | rfl | (simp_all []; done))) dX2_deliverDirectly_46
      · skip
        have c_2 := (not_congr (z_leI (a := n) (b := h) (by omega) (by omega))).mp c_2
        refine lv_aload_n hx hb dX2_deliverDirectly_13 rfl (lv_at hl 1 rfl) ?_
        refine z_getR hx hb hts hown in_X2_deliverDirectly_X2 hK hN (hts _ (List.mem_of_getElem? (i := 1) (by decide +kernel))) dX2_deliverDirectly_14 ?_
        refine z_getO (v := .ref (ad 1)) hx hb hts hown in_X2_deliverDirectly_X1 hK hN 0 (by decide) rfl (hts _ (List.mem_of_getElem? (i := 3) (by decide +kernel))) rfl dX2_deliverDirectly_17 ?_
        refine lv_iload_n hx hb dX2_deliverDirectly_20 rfl (lv_at hl 0 rfl) ?_
        refine z_aald (i := h) hx hb hK hN rfl (by omega) dX2_deliverDirectly_21 ?_
        refine lv_astore_n (lv' := [(2, .ref (ad (3 + h))), (1, .int (nI h)), (0, .ref r)]) hx hb dX2_deliverDirectly_22 rfl hl (by decide) rfl (fun ls hl => ?_)
        refine lv_aload_n hx hb dX2_deliverDirectly_23 rfl (lv_at hl 2 rfl) ?_
        refine lv_iload_n hx hb dX2_deliverDirectly_24 rfl (lv_at hl 1 rfl) ?_
        refine z_vi (As := [.int (nI h)]) (rest := []) (P2 := zNA G ad n N g (zX r ad) τh) (r := zBi (τh 3 h = 1 ∧ τh 7 h = nI h)) S (c_X2_isLivingHead l G A ad n N g r hA hnN hN12  τh h (by omega)) (cwV 1 hts gX2_deliverDirectly_X2_isLivingHead rfl rfl rfl (by decide +kernel) ⟨Nat.le_of_ble_eq_true rfl, Nat.le_of_ble_eq_true rfl⟩) (z_recR hK hN) hN hK hS (fun _ _ h => h) (fun _ h => h) hl.1 rfl rfl (Nat.le_of_ble_eq_true rfl) dX2_deliverDirectly_25 ⟨Nat.le_refl _, Nat.le_refl _⟩ (fun H locs hN hS _ => ?_)
        refine lv_if_eq (tgt := 40) hx hb dX2_deliverDirectly_28 (by decide) (fun c_3 => ?_) (fun c_4 => ?_)
        · skip
          have c_3 := zBi_0.mp c_3
          refine lv_iinc (v := nI (h + 1)) (lv' := [(1, .int (nI (h + 1))), (2, .ref (ad (3 + h))), (0, .ref r)]) hx hb dX2_deliverDirectly_40 hl (k := 1) rfl (nI_1 _) (by decide) rfl (fun ls hl => ?_)
          refine lv_goto (tgt := 2) hx hb dX2_deliverDirectly_43 (by decide) ?_
          have e_5 : zIt (zDdS g) (h + 1) τ = τh := by
            rw [zIt_s, hF_τh]
            first | with_reducible rfl | (simp only [zDdS, c_2, c_3, eq_self, ne_eq, not_true_eq_false, not_false_eq_true, and_true, true_and, and_self, and_false, false_and, true_or, or_true, false_or, or_false, reduceIte]; done) | (simp [zDdS, c_2, c_3]; done) | rfl | (simp_all [zDdS]; done)
          refine ih1 (h + 1) _ _ _ (by omega) (by omega) ?_ hS ?_
          · first | exact hN | (rw [e_5]; exact hN)
          · first | exact lv_sub hl [0, 2] rfl | (rw [e_5]; exact lv_sub hl [0, 2] rfl)
        · skip
          have c_4 := zBi_n0.mp c_4
          refine lv_aload_n hx hb dX2_deliverDirectly_31 rfl (lv_at hl 2 rfl) ?_
          refine lv_aload_n hx hb dX2_deliverDirectly_32 rfl (lv_at hl 0 rfl) ?_
          refine lv_aload_n hx hb dX2_deliverDirectly_33 rfl (lv_at hl 0 rfl) ?_
          refine z_getS (v := .int (τh 9 h)) hx hb hts hown in_X2_deliverDirectly_X3 hK hN12 hN (by omega) 10 (by decide) rfl (hts _ (List.mem_of_getElem? (i := 4) (by decide +kernel))) rfl dX2_deliverDirectly_34 ?_
          refine z_vv (As := [.ref (ad (3 + h)), .int (τh 9 h)]) (rest := []) (P2 := zNA G ad n N g (zX r ad) (zSb g τh h (τh 9 h))) S (c_X2_sendToBase l G A ad n N g r hA hnN hN12 hd5 τh h (by omega) (τh 9 h)) (cwV 2 hts gX2_deliverDirectly_X2_sendToBase rfl rfl rfl (by decide +kernel) ⟨Nat.le_of_ble_eq_true rfl, Nat.le_of_ble_eq_true rfl⟩) (z_recR hK hN) hN hK hS (fun _ _ h => h) (fun _ h => h) hl.1 rfl rfl (Nat.le_of_ble_eq_true rfl) dX2_deliverDirectly_37 ⟨Nat.le_refl _, Nat.le_refl _⟩ (fun H locs hN hS _ => ?_)
          refine lv_iinc (v := nI (h + 1)) (lv' := [(1, .int (nI (h + 1))), (2, .ref (ad (3 + h))), (0, .ref r)]) hx hb dX2_deliverDirectly_40 hl (k := 1) rfl (nI_1 _) (by decide) rfl (fun ls hl => ?_)
          refine lv_goto (tgt := 2) hx hb dX2_deliverDirectly_43 (by decide) ?_
          have e_6 : zIt (zDdS g) (h + 1) τ = zSb g τh h (τh 9 h) := by
            rw [zIt_s, hF_τh]
            first | with_reducible rfl | (simp only [zDdS, c_2, c_4, eq_self, ne_eq, not_true_eq_false, not_false_eq_true, and_true, true_and, and_self, and_false, false_and, true_or, or_true, false_or, or_false, reduceIte]; done) | (simp [zDdS, c_2, c_4]; done) | rfl | (simp_all [zDdS]; done)
          refine ih1 (h + 1) _ _ _ (by omega) (by omega) ?_ hS ?_
          · first | exact hN | (rw [e_6]; exact hN)
          · first | exact lv_sub hl [0, 2] rfl | (rw [e_6]; exact lv_sub hl [0, 2] rfl)
  exact loop1 (n + 1) 0 _ _ _ (by omega) (by omega) hN hS (lv_sub hl [0, 1] rfl)

theorem in_X2_deliverThroughRelay_X1 : ∀ w ∈ wsX10, w ∈ wsX2_deliverThroughRelay := by decide +kernel
theorem in_X2_deliverThroughRelay_X2 : ∀ w ∈ wsX20, w ∈ wsX2_deliverThroughRelay := by decide +kernel
theorem in_X2_deliverThroughRelay_X3 : ∀ w ∈ wsX30, w ∈ wsX2_deliverThroughRelay := by decide +kernel
set_option maxHeartbeats 4000000 in
set_option maxRecDepth 100000 in
theorem c_X2_deliverThroughRelay (l : Launch) (G : zG) (A : Nat → Prop) (ad : Nat → Nat) (n N : Nat) (g : Nat → Int32) (r : Nat) (hA : zAp G ad (zX r ad) A) (hnN : n ≤ N) (hN12 : N ≤ 12) (hd5 : 0 < g 5) (τ : zT) : zMv l G A yX2_deliverThroughRelay wsX2_deliverThroughRelay 2 50 [.ref r] (zNA G ad n N g (zX r ad) τ) (zNA G ad n N g (zX r ad) (zRl n g τ)) := by
  refine z_met (cc := cX2_deliverThroughRelay) (maxL := 5) (ret := none) (by decide) rfl (Nat.le_of_ble_eq_true rfl) ?_
  intro p e s m below meth c ls S hr hlk hnm hN hK hl
  have S : CallFix p m c cX2_deliverThroughRelay 5 s _ wsX2_deliverThroughRelay RX2 := S
  obtain ⟨hx, hb, hml, hown, hts⟩ := id S
  have hS : va_S A s.heap s.heap [] := va_S.rf
  have hl : lv_has ls 5 [(0, .ref r)] := hl
  refine lv_aload_n hx hb dX2_deliverThroughRelay_0 rfl (lv_at hl 0 rfl) ?_
  refine lv_aload_n hx hb dX2_deliverThroughRelay_1 rfl (lv_at hl 0 rfl) ?_
  refine z_getR hx hb hts hown in_X2_deliverThroughRelay_X2 hK hN (hts _ (List.mem_of_getElem? (i := 1) (by decide +kernel))) dX2_deliverThroughRelay_2 ?_
  refine z_getO (v := .int (g 1)) hx hb hts hown in_X2_deliverThroughRelay_X1 hK hN 3 (by decide) rfl (hts _ (List.mem_of_getElem? (i := 2) (by decide +kernel))) rfl dX2_deliverThroughRelay_5 ?_
  refine lv_aload_n hx hb dX2_deliverThroughRelay_8 rfl (lv_at hl 0 rfl) ?_
  refine z_getR hx hb hts hown in_X2_deliverThroughRelay_X2 hK hN (hts _ (List.mem_of_getElem? (i := 1) (by decide +kernel))) dX2_deliverThroughRelay_9 ?_
  refine z_getO (v := .int (g 2)) hx hb hts hown in_X2_deliverThroughRelay_X1 hK hN 4 (by decide) rfl (hts _ (List.mem_of_getElem? (i := 3) (by decide +kernel))) rfl dX2_deliverThroughRelay_12 ?_
  refine z_vi (As := [.int (g 1), .int (g 2)]) (rest := []) (P2 := zNA G ad n N g (zX r ad) τ) (r := zOi (zNe n τ (g 1) (g 2))) S (c_X2_nearestHead l G A ad n N g r hA hnN hN12  τ (g 1) (g 2)) (cwV 2 hts gX2_deliverThroughRelay_X2_nearestHead rfl rfl rfl (by decide +kernel) ⟨Nat.le_of_ble_eq_true rfl, Nat.le_of_ble_eq_true rfl⟩) (z_recR hK hN) hN hK hS (fun _ _ h => h) (fun _ h => h) hl.1 rfl rfl (Nat.le_of_ble_eq_true rfl) dX2_deliverThroughRelay_15 ⟨Nat.le_refl _, Nat.le_refl _⟩ (fun H locs hN hS _ => ?_)
  rcases hO : zNe n τ (g 1) (g 2) with _ | b
  · skip
    refine lv_istore_n (lv' := [(1, .int (-9)), (0, .ref r)]) hx hb dX2_deliverThroughRelay_18 rfl hl (by decide) rfl (fun ls hl => ?_)
    refine lv_aload_n hx hb dX2_deliverThroughRelay_19 rfl (lv_at hl 1 rfl) ?_
    refine z_getR hx hb hts hown in_X2_deliverThroughRelay_X2 hK hN (hts _ (List.mem_of_getElem? (i := 1) (by decide +kernel))) dX2_deliverThroughRelay_20 ?_
    refine lv_iload_n hx hb dX2_deliverThroughRelay_23 rfl (lv_at hl 0 rfl) ?_
    refine z_vi (As := [.int (-9)]) (rest := []) (P2 := zNA G ad n N g (zX r ad) τ) (r := 0) S (z_has_no l G A ad n N g (zX r ad) hA hnN hN12 τ) (cwV 1 hts gX2_deliverThroughRelay_X1_has rfl rfl rfl (by decide +kernel) ⟨Nat.le_of_ble_eq_true rfl, Nat.le_of_ble_eq_true rfl⟩) (z_recN hK hN) hN hK hS (fun _ _ h => h) (fun _ h => h) hl.1 rfl rfl (Nat.le_of_ble_eq_true rfl) dX2_deliverThroughRelay_24 ⟨Nat.le_refl _, Nat.le_refl _⟩ (fun H locs hN hS _ => ?_)
    refine lv_if_ne (tgt := 31) hx hb dX2_deliverThroughRelay_27 (by decide) (fun q => absurd (by decide) q) (fun _ => ?_)
    exact z_vret hx hb hr hlk hK hS (hN.cast (by first | with_reducible rfl | (simp only [zRl, zRlE, hO, eq_self, ne_eq, not_true_eq_false, not_false_eq_true, and_true, true_and, and_self, and_false, false_and, true_or, or_true, false_or, or_false, reduceIte]; done) | (simp [zRl, zRlE, hO]; done) | rfl | (simp_all [zRl, zRlE]; done))) dX2_deliverThroughRelay_30
  · skip
    have hb2 : b < n := zNe_lt n τ (g 1) (g 2) n b hO
    refine lv_istore_n (lv' := [(1, .int (nI b)), (0, .ref r)]) hx hb dX2_deliverThroughRelay_18 rfl hl (by decide) rfl (fun ls hl => ?_)
    refine lv_aload_n hx hb dX2_deliverThroughRelay_19 rfl (lv_at hl 1 rfl) ?_
    refine z_getR hx hb hts hown in_X2_deliverThroughRelay_X2 hK hN (hts _ (List.mem_of_getElem? (i := 1) (by decide +kernel))) dX2_deliverThroughRelay_20 ?_
    refine lv_iload_n hx hb dX2_deliverThroughRelay_23 rfl (lv_at hl 0 rfl) ?_
    refine z_vi (As := [.int (nI b)]) (rest := []) (P2 := zNA G ad n N g (zX r ad) τ) (r := 1) S (z_has_yes l G A ad n N g (zX r ad) hA hnN hN12 τ b (by omega)) (cwV 1 hts gX2_deliverThroughRelay_X1_has rfl rfl rfl (by decide +kernel) ⟨Nat.le_of_ble_eq_true rfl, Nat.le_of_ble_eq_true rfl⟩) (z_recN hK hN) hN hK hS (fun _ _ h => h) (fun _ h => h) hl.1 rfl rfl (Nat.le_of_ble_eq_true rfl) dX2_deliverThroughRelay_24 ⟨Nat.le_refl _, Nat.le_refl _⟩ (fun H locs hN hS _ => ?_)
    refine lv_if_ne (tgt := 31) hx hb dX2_deliverThroughRelay_27 (by decide) (fun _ => ?_) (fun q => absurd q (by decide))
    refine lv_aload_n hx hb dX2_deliverThroughRelay_31 rfl (lv_at hl 1 rfl) ?_
    refine z_getR hx hb hts hown in_X2_deliverThroughRelay_X2 hK hN (hts _ (List.mem_of_getElem? (i := 1) (by decide +kernel))) dX2_deliverThroughRelay_32 ?_
    refine z_getO (v := .ref (ad 1)) hx hb hts hown in_X2_deliverThroughRelay_X1 hK hN 0 (by decide) rfl (hts _ (List.mem_of_getElem? (i := 4) (by decide +kernel))) rfl dX2_deliverThroughRelay_35 ?_
    refine lv_iload_n hx hb dX2_deliverThroughRelay_38 rfl (lv_at hl 0 rfl) ?_
    refine z_aald (i := b) hx hb hK hN rfl (by omega) dX2_deliverThroughRelay_39 ?_
    refine lv_astore_n (lv' := [(2, .ref (ad (3 + b))), (1, .int (nI b)), (0, .ref r)]) hx hb dX2_deliverThroughRelay_40 rfl hl (by decide) rfl (fun ls hl => ?_)
    refine lv_iconst (v := 0) hx hb dX2_deliverThroughRelay_41 (by decide) ?_
    refine lv_istore_n (lv' := [(3, .int 0), (2, .ref (ad (3 + b))), (1, .int (nI b)), (0, .ref r)]) hx hb dX2_deliverThroughRelay_42 rfl hl (by decide) rfl (fun ls hl => ?_)
    have loop1 : ∀ (f1 h : Nat) (H : Heap) (locs : List Loc) (ls : Array Slot), h ≤ n → n < h + f1 → zNA G ad n N g (zX r ad) (zIt (zRlS g b) h τ) H → va_S A s.heap H locs → lv_has ls 5 [(3, .int (nI h)), (2, .ref (ad (3 + b))), (1, .int (nI b)), (0, .ref r)] → W p l e ({ frames := 2, cells := 0, slots := 0, locals := 50 } : Room) s m ([.ref r] : List Value).toArray below meth c H locs 0 0 (MQ below (zQv G (zNA G ad n N g (zX r ad) (zRl n g τ)) A) ([.ref r] : List Value).toArray s 0 0 A) (F0 m 43 ls []) := by
      intro f1
      induction f1 with
      | zero => intro h H locs ls h1 h2; exact absurd h2 (by omega)
      | succ f1 ih1 =>
        intro h H locs ls hk1 hf1 hN hS hl
        generalize hF_τh : zIt (zRlS g b) h τ = τh at hN hl 
        refine lv_iload_n hx hb dX2_deliverThroughRelay_43 rfl (lv_at hl 0 rfl) ?_
        refine lv_aload_n hx hb dX2_deliverThroughRelay_44 rfl (lv_at hl 3 rfl) ?_
        refine z_getR hx hb hts hown in_X2_deliverThroughRelay_X2 hK hN (hts _ (List.mem_of_getElem? (i := 1) (by decide +kernel))) dX2_deliverThroughRelay_45 ?_
        refine z_getO (v := .int (nI n)) hx hb hts hown in_X2_deliverThroughRelay_X1 hK hN 2 (by decide) rfl (hts _ (List.mem_of_getElem? (i := 5) (by decide +kernel))) rfl dX2_deliverThroughRelay_48 ?_
        refine lv_icmp_ge (tgt := 108) hx hb dX2_deliverThroughRelay_51 (by decide) (fun c_1 => ?_) (fun c_2 => ?_)
        · skip
          have c_1 := (z_leI (a := n) (b := h) (by omega) (by omega)).mp c_1
          have hkn1 : h = n := by omega
          rw [hkn1] at hF_τh
          subst hF_τh
          refine lv_aload_n hx hb dX2_deliverThroughRelay_108 rfl (lv_at hl 1 rfl) ?_
          refine z_getS (v := .int (zBi ((zIt (zRlS g b) n τ) 3 b = 1))) hx hb hts hown in_X2_deliverThroughRelay_X3 hK hN12 hN (by omega) 3 (by decide) rfl (hts _ (List.mem_of_getElem? (i := 7) (by decide +kernel))) rfl dX2_deliverThroughRelay_109 ?_
          refine lv_if_eq (tgt := 124) hx hb dX2_deliverThroughRelay_112 (by decide) (fun c_3 => ?_) (fun c_4 => ?_)
          · skip
            have c_3 := zBi_0.mp c_3
            exact z_vret hx hb hr hlk hK hS (hN.cast (by first | with_reducible rfl | (simp only [zRl, zRlE, hO, c_1, c_3, eq_self, ne_eq, not_true_eq_false, not_false_eq_true, and_true, true_and, and_self, and_false, false_and, true_or, or_true, false_or, or_false, reduceIte]; done) | (simp [zRl, zRlE, hO, c_1, c_3]; done) | rfl | (simp_all [zRl, zRlE]; done))) dX2_deliverThroughRelay_124
          · skip
            have c_4 := zBi_n0.mp c_4
            refine lv_aload_n hx hb dX2_deliverThroughRelay_115 rfl (lv_at hl 3 rfl) ?_
            refine lv_aload_n hx hb dX2_deliverThroughRelay_116 rfl (lv_at hl 1 rfl) ?_
            refine lv_aload_n hx hb dX2_deliverThroughRelay_117 rfl (lv_at hl 1 rfl) ?_
            refine z_getS (v := .int ((zIt (zRlS g b) n τ) 9 b)) hx hb hts hown in_X2_deliverThroughRelay_X3 hK hN12 hN (by omega) 10 (by decide) rfl (hts _ (List.mem_of_getElem? (i := 6) (by decide +kernel))) rfl dX2_deliverThroughRelay_118 ?_
            refine z_vv (As := [.ref (ad (3 + b)), .int ((zIt (zRlS g b) n τ) 9 b)]) (rest := []) (P2 := zNA G ad n N g (zX r ad) (zSb g (zIt (zRlS g b) n τ) b ((zIt (zRlS g b) n τ) 9 b))) S (c_X2_sendToBase l G A ad n N g r hA hnN hN12 hd5 (zIt (zRlS g b) n τ) b (by omega) ((zIt (zRlS g b) n τ) 9 b)) (cwV 2 hts gX2_deliverThroughRelay_X2_sendToBase rfl rfl rfl (by decide +kernel) ⟨Nat.le_of_ble_eq_true rfl, Nat.le_of_ble_eq_true rfl⟩) (z_recR hK hN) hN hK hS (fun _ _ h => h) (fun _ h => h) hl.1 rfl rfl (Nat.le_of_ble_eq_true rfl) dX2_deliverThroughRelay_121 ⟨Nat.le_refl _, Nat.le_refl _⟩ (fun H locs hN hS _ => ?_)
            exact z_vret hx hb hr hlk hK hS (hN.cast (by first | with_reducible rfl | (simp only [zRl, zRlE, hO, c_1, c_4, eq_self, ne_eq, not_true_eq_false, not_false_eq_true, and_true, true_and, and_self, and_false, false_and, true_or, or_true, false_or, or_false, reduceIte]; done) | (simp [zRl, zRlE, hO, c_1, c_4]; done) | rfl | (simp_all [zRl, zRlE]; done))) dX2_deliverThroughRelay_124
        · skip
          have c_2 := (not_congr (z_leI (a := n) (b := h) (by omega) (by omega))).mp c_2
          refine lv_aload_n hx hb dX2_deliverThroughRelay_54 rfl (lv_at hl 3 rfl) ?_
          refine z_getR hx hb hts hown in_X2_deliverThroughRelay_X2 hK hN (hts _ (List.mem_of_getElem? (i := 1) (by decide +kernel))) dX2_deliverThroughRelay_55 ?_
          refine z_getO (v := .ref (ad 1)) hx hb hts hown in_X2_deliverThroughRelay_X1 hK hN 0 (by decide) rfl (hts _ (List.mem_of_getElem? (i := 4) (by decide +kernel))) rfl dX2_deliverThroughRelay_58 ?_
          refine lv_iload_n hx hb dX2_deliverThroughRelay_61 rfl (lv_at hl 0 rfl) ?_
          refine z_aald (i := h) hx hb hK hN rfl (by omega) dX2_deliverThroughRelay_62 ?_
          refine lv_astore (lv' := [(4, .ref (ad (3 + h))), (3, .int (nI h)), (2, .ref (ad (3 + b))), (1, .int (nI b)), (0, .ref r)]) hx hb dX2_deliverThroughRelay_63 hl (by decide) rfl (fun ls hl => ?_)
          refine lv_iload_n hx hb dX2_deliverThroughRelay_65 rfl (lv_at hl 1 rfl) ?_
          refine lv_iload_n hx hb dX2_deliverThroughRelay_66 rfl (lv_at hl 3 rfl) ?_
          refine lv_icmp_eq (tgt := 102) hx hb dX2_deliverThroughRelay_67 (by decide) (fun c_5 => ?_) (fun c_6 => ?_)
          · skip
            have c_5 := (z_eqI (a := h) (b := b) (by omega) (by omega)).mp c_5
            refine lv_iinc (v := nI (h + 1)) (lv' := [(3, .int (nI (h + 1))), (4, .ref (ad (3 + h))), (2, .ref (ad (3 + b))), (1, .int (nI b)), (0, .ref r)]) hx hb dX2_deliverThroughRelay_102 hl (k := 1) rfl (nI_1 _) (by decide) rfl (fun ls hl => ?_)
            refine lv_goto (tgt := 43) hx hb dX2_deliverThroughRelay_105 (by decide) ?_
            have e_7 : zIt (zRlS g b) (h + 1) τ = τh := by
              rw [zIt_s, hF_τh]
              first | with_reducible rfl | (simp only [zRlS, hO, c_2, c_5, eq_self, ne_eq, not_true_eq_false, not_false_eq_true, and_true, true_and, and_self, and_false, false_and, true_or, or_true, false_or, or_false, reduceIte]; done) | (simp [zRlS, hO, c_2, c_5]; done) | rfl | (simp_all [zRlS]; done)
            refine ih1 (h + 1) _ _ _ (by omega) (by omega) ?_ hS ?_
            · first | exact hN | (rw [e_7]; exact hN)
            · first | exact lv_sub hl [0, 2, 3, 4] rfl | (rw [e_7]; exact lv_sub hl [0, 2, 3, 4] rfl)
          · skip
            have c_6 := (not_congr (z_eqI (a := h) (b := b) (by omega) (by omega))).mp c_6
            refine lv_aload_n hx hb dX2_deliverThroughRelay_70 rfl (lv_at hl 4 rfl) ?_
            refine lv_iload_n hx hb dX2_deliverThroughRelay_71 rfl (lv_at hl 1 rfl) ?_
            refine z_vi (As := [.int (nI h)]) (rest := []) (P2 := zNA G ad n N g (zX r ad) τh) (r := zBi (τh 3 h = 1 ∧ τh 7 h = nI h)) S (c_X2_isLivingHead l G A ad n N g r hA hnN hN12  τh h (by omega)) (cwV 1 hts gX2_deliverThroughRelay_X2_isLivingHead rfl rfl rfl (by decide +kernel) ⟨Nat.le_of_ble_eq_true rfl, Nat.le_of_ble_eq_true rfl⟩) (z_recR hK hN) hN hK hS (fun _ _ h => h) (fun _ h => h) hl.1 rfl rfl (Nat.le_of_ble_eq_true rfl) dX2_deliverThroughRelay_72 ⟨Nat.le_refl _, Nat.le_refl _⟩ (fun H locs hN hS _ => ?_)
            refine lv_if_eq (tgt := 102) hx hb dX2_deliverThroughRelay_75 (by decide) (fun c_8 => ?_) (fun c_9 => ?_)
            · skip
              have c_8 := zBi_0.mp c_8
              refine lv_iinc (v := nI (h + 1)) (lv' := [(3, .int (nI (h + 1))), (4, .ref (ad (3 + h))), (2, .ref (ad (3 + b))), (1, .int (nI b)), (0, .ref r)]) hx hb dX2_deliverThroughRelay_102 hl (k := 1) rfl (nI_1 _) (by decide) rfl (fun ls hl => ?_)
              refine lv_goto (tgt := 43) hx hb dX2_deliverThroughRelay_105 (by decide) ?_
              have e_10 : zIt (zRlS g b) (h + 1) τ = τh := by
                rw [zIt_s, hF_τh]
                first | with_reducible rfl | (simp only [zRlS, hO, c_2, c_6, c_8, eq_self, ne_eq, not_true_eq_false, not_false_eq_true, and_true, true_and, and_self, and_false, false_and, true_or, or_true, false_or, or_false, reduceIte]; done) | (simp [zRlS, hO, c_2, c_6, c_8]; done) | rfl | (simp_all [zRlS]; done)
              refine ih1 (h + 1) _ _ _ (by omega) (by omega) ?_ hS ?_
              · first | exact hN | (rw [e_10]; exact hN)
              · first | exact lv_sub hl [0, 2, 3, 4] rfl | (rw [e_10]; exact lv_sub hl [0, 2, 3, 4] rfl)
            · skip
              have c_9 := zBi_n0.mp c_9
              refine lv_aload_n hx hb dX2_deliverThroughRelay_78 rfl (lv_at hl 4 rfl) ?_
              refine lv_aload hx hb dX2_deliverThroughRelay_79 (lv_at hl 0 rfl) ?_
              refine lv_aload_n hx hb dX2_deliverThroughRelay_81 rfl (lv_at hl 2 rfl) ?_
              refine z_vi (As := [.ref (ad (3 + h)), .ref (ad (3 + b))]) (rest := []) (P2 := zNA G ad n N g (zX r ad) ((zSd g τh h b).1)) (r := (zSd g τh h b).2) S (c_X2_sends l G A ad n N g r hA hnN hN12 hd5 τh h b (by omega) (by omega)) (cwV 2 hts gX2_deliverThroughRelay_X2_sends rfl rfl rfl (by decide +kernel) ⟨Nat.le_of_ble_eq_true rfl, Nat.le_of_ble_eq_true rfl⟩) (z_recR hK hN) hN hK hS (fun _ _ h => h) (fun _ h => h) hl.1 rfl rfl (Nat.le_of_ble_eq_true rfl) dX2_deliverThroughRelay_82 ⟨Nat.le_refl _, Nat.le_refl _⟩ (fun H locs hN hS _ => ?_)
              refine lv_if_eq (tgt := 102) hx hb dX2_deliverThroughRelay_85 (by decide) (fun c_11 => ?_) (fun c_12 => ?_)
              · skip
                refine lv_iinc (v := nI (h + 1)) (lv' := [(3, .int (nI (h + 1))), (4, .ref (ad (3 + h))), (2, .ref (ad (3 + b))), (1, .int (nI b)), (0, .ref r)]) hx hb dX2_deliverThroughRelay_102 hl (k := 1) rfl (nI_1 _) (by decide) rfl (fun ls hl => ?_)
                refine lv_goto (tgt := 43) hx hb dX2_deliverThroughRelay_105 (by decide) ?_
                have e_13 : zIt (zRlS g b) (h + 1) τ = (zSd g τh h b).1 := by
                  rw [zIt_s, hF_τh]
                  first | with_reducible rfl | (simp only [zRlS, hO, c_2, c_6, c_9, c_11, eq_self, ne_eq, not_true_eq_false, not_false_eq_true, and_true, true_and, and_self, and_false, false_and, true_or, or_true, false_or, or_false, reduceIte]; done) | (simp [zRlS, hO, c_2, c_6, c_9, c_11]; done) | rfl | (simp_all [zRlS]; done)
                refine ih1 (h + 1) _ _ _ (by omega) (by omega) ?_ hS ?_
                · first | exact hN | (rw [e_13]; exact hN)
                · first | exact lv_sub hl [0, 2, 3, 4] rfl | (rw [e_13]; exact lv_sub hl [0, 2, 3, 4] rfl)
              · skip
                refine lv_aload_n hx hb dX2_deliverThroughRelay_88 rfl (lv_at hl 2 rfl) ?_
                refine lv_dup hx hb dX2_deliverThroughRelay_89 rfl ?_
                refine z_getS (v := .int (((zSd g τh h b).1) 9 b)) hx hb hts hown in_X2_deliverThroughRelay_X3 hK hN12 hN (by omega) 10 (by decide) rfl (hts _ (List.mem_of_getElem? (i := 6) (by decide +kernel))) rfl dX2_deliverThroughRelay_90 ?_
                refine lv_aload hx hb dX2_deliverThroughRelay_93 (lv_at hl 0 rfl) ?_
                refine z_getS (v := .int (((zSd g τh h b).1) 9 h)) hx hb hts hown in_X2_deliverThroughRelay_X3 hK hN12 hN (by omega) 10 (by decide) rfl (hts _ (List.mem_of_getElem? (i := 6) (by decide +kernel))) rfl dX2_deliverThroughRelay_95 ?_
                refine lv_iadd hx hb dX2_deliverThroughRelay_98 ?_
                refine z_putS (v := .int ((((zSd g τh h b).1) 9 b) + (((zSd g τh h b).1) 9 h))) (w := (((zSd g τh h b).1) 9 b) + (((zSd g τh h b).1) 9 h)) (ty := .int) hx hb hts hown in_X2_deliverThroughRelay_X3 hK hA hS hN (by omega) 10 9 (by decide) rfl (by decide) (hts _ (List.mem_of_getElem? (i := 6) (by decide +kernel))) (by decide +kernel) rfl rfl rfl (fun τ => zSet10 τ _ _) dX2_deliverThroughRelay_99 (fun H locs hN hS => ?_)
                refine lv_iinc (v := nI (h + 1)) (lv' := [(3, .int (nI (h + 1))), (4, .ref (ad (3 + h))), (2, .ref (ad (3 + b))), (1, .int (nI b)), (0, .ref r)]) hx hb dX2_deliverThroughRelay_102 hl (k := 1) rfl (nI_1 _) (by decide) rfl (fun ls hl => ?_)
                refine lv_goto (tgt := 43) hx hb dX2_deliverThroughRelay_105 (by decide) ?_
                have e_14 : zIt (zRlS g b) (h + 1) τ = zSt ((zSd g τh h b).1) 9 b ((((zSd g τh h b).1) 9 b) + (((zSd g τh h b).1) 9 h)) := by
                  rw [zIt_s, hF_τh]
                  first | with_reducible rfl | (simp only [zRlS, hO, c_2, c_6, c_9, c_12, eq_self, ne_eq, not_true_eq_false, not_false_eq_true, and_true, true_and, and_self, and_false, false_and, true_or, or_true, false_or, or_false, reduceIte]; done) | (simp [zRlS, hO, c_2, c_6, c_9, c_12]; done) | rfl | (simp_all [zRlS]; done)
                refine ih1 (h + 1) _ _ _ (by omega) (by omega) ?_ hS ?_
                · first | exact hN | (rw [e_14]; exact hN)
                · first | exact lv_sub hl [0, 2, 3, 4] rfl | (rw [e_14]; exact lv_sub hl [0, 2, 3, 4] rfl)
    exact loop1 (n + 1) 0 _ _ _ (by omega) (by omega) hN hS (lv_sub hl [0, 1, 2, 3] rfl)

theorem in_X2_deliver_X1 : ∀ w ∈ wsX10, w ∈ wsX2_deliver := by decide +kernel
theorem in_X2_deliver_X2 : ∀ w ∈ wsX20, w ∈ wsX2_deliver := by decide +kernel
set_option maxHeartbeats 4000000 in
set_option maxRecDepth 100000 in
theorem c_X2_deliver (l : Launch) (G : zG) (A : Nat → Prop) (ad : Nat → Nat) (n N : Nat) (g : Nat → Int32) (r : Nat) (hA : zAp G ad (zX r ad) A) (hnN : n ≤ N) (hN12 : N ≤ 12) (hd5 : 0 < g 5) (τ : zT) : zMv l G A yX2_deliver wsX2_deliver 3 74 [.ref r] (zNA G ad n N g (zX r ad) τ) (zNA G ad n N g (zX r ad) (zDv n g τ)) := by
  refine z_met (cc := cX2_deliver) (maxL := 1) (ret := none) (by decide) rfl (Nat.le_of_ble_eq_true rfl) ?_
  intro p e s m below meth c ls S hr hlk hnm hN hK hl
  have S : CallFix p m c cX2_deliver 1 s _ wsX2_deliver RX2 := S
  obtain ⟨hx, hb, hml, hown, hts⟩ := id S
  have hS : va_S A s.heap s.heap [] := va_S.rf
  have hl : lv_has ls 1 [(0, .ref r)] := hl
  refine lv_aload_n hx hb dX2_deliver_0 rfl (lv_at hl 0 rfl) ?_
  refine z_getR hx hb hts hown in_X2_deliver_X2 hK hN (hts _ (List.mem_of_getElem? (i := 1) (by decide +kernel))) dX2_deliver_1 ?_
  refine z_getO (v := .ref (ad 2)) hx hb hts hown in_X2_deliver_X1 hK hN 1 (by decide) rfl (hts _ (List.mem_of_getElem? (i := 2) (by decide +kernel))) rfl dX2_deliver_4 ?_
  refine lv_iconst (v := 5) hx hb dX2_deliver_7 (by decide) ?_
  refine z_iald (w := g 8) hx hb hK hN 5 (by decide) (by decide) rfl dX2_deliver_8 ?_
  refine lv_iconst (v := 1) hx hb dX2_deliver_9 (by decide) ?_
  refine lv_icmp_ne (tgt := 20) hx hb dX2_deliver_10 (by decide) (fun c_1 => ?_) (fun c_2 => ?_)
  · skip
    refine lv_aload_n hx hb dX2_deliver_20 rfl (lv_at hl 0 rfl) ?_
    refine z_vv (As := []) (rest := []) (P2 := zNA G ad n N g (zX r ad) (zIt (zDdS g) n τ)) S (c_X2_deliverDirectly l G A ad n N g r hA hnN hN12 hd5 τ ) (cwV 0 hts gX2_deliver_X2_deliverDirectly rfl rfl rfl (by decide +kernel) ⟨Nat.le_of_ble_eq_true rfl, Nat.le_of_ble_eq_true rfl⟩) (z_recR hK hN) hN hK hS (fun _ _ h => h) (fun _ h => h) hl.1 rfl rfl (Nat.le_of_ble_eq_true rfl) dX2_deliver_21 ⟨Nat.le_refl _, Nat.le_refl _⟩ (fun H locs hN hS _ => ?_)
    exact z_vret hx hb hr hlk hK hS (hN.cast (by first | with_reducible rfl | (simp only [zDv, c_1, eq_self, ne_eq, not_true_eq_false, not_false_eq_true, and_true, true_and, and_self, and_false, false_and, true_or, or_true, false_or, or_false, reduceIte]; done) | (simp [zDv, c_1]; done) | rfl | (simp_all [zDv]; done))) dX2_deliver_24
  · skip
    refine lv_aload_n hx hb dX2_deliver_13 rfl (lv_at hl 0 rfl) ?_
    refine z_vv (As := []) (rest := []) (P2 := zNA G ad n N g (zX r ad) (zRl n g τ)) S (c_X2_deliverThroughRelay l G A ad n N g r hA hnN hN12 hd5 τ ) (cwV 0 hts gX2_deliver_X2_deliverThroughRelay rfl rfl rfl (by decide +kernel) ⟨Nat.le_of_ble_eq_true rfl, Nat.le_of_ble_eq_true rfl⟩) (z_recR hK hN) hN hK hS (fun _ _ h => h) (fun _ h => h) hl.1 rfl rfl (Nat.le_of_ble_eq_true rfl) dX2_deliver_14 ⟨Nat.le_refl _, Nat.le_refl _⟩ (fun H locs hN hS _ => ?_)
    refine lv_goto (tgt := 24) hx hb dX2_deliver_17 (by decide) ?_
    exact z_vret hx hb hr hlk hK hS (hN.cast (by first | with_reducible rfl | (simp only [zDv, c_2, eq_self, ne_eq, not_true_eq_false, not_false_eq_true, and_true, true_and, and_self, and_false, false_and, true_or, or_true, false_or, or_false, reduceIte]; done) | (simp [zDv, c_2]; done) | rfl | (simp_all [zDv]; done))) dX2_deliver_24
