/-! rows laid by my own program (wip/whole/gen) -/
theorem in_X5_nearestHead_X5 : ∀ w ∈ wsX50, w ∈ wsX5_nearestHead := by decide +kernel
set_option maxHeartbeats 4000000 in
set_option maxRecDepth 100000 in
theorem c_X5_nearestHead (l : Launch) (G : zG) (A : Nat → Prop) (ad : Nat → Nat) (Y : zY) (n : Nat) (g : Nat → Int32) (hA : zAm G ad A) (hn12 : n ≤ 12) (τ : zT) (k : Nat) (hk : k < 12) : zMi l G A yX5_nearestHead wsX5_nearestHead 3 69 [.ref (ad 0), .int (nI k)] (zMP G ad Y n g τ) (zOi (zNm n τ k)) (zMP G ad Y n g τ) := by
  refine z_met (cc := cX5_nearestHead) (maxL := 4) (ret := (some .int)) (by decide) rfl (Nat.le_of_ble_eq_true rfl) ?_
  intro p e s m below meth c ls S hr hlk hnm hM hK hl
  have S : CallFix p m c cX5_nearestHead 4 s _ wsX5_nearestHead RX5 := S
  obtain ⟨hx, hb, hml, hown, hts⟩ := id S
  have hS : va_S A s.heap s.heap [] := va_S.rf
  have hl : lv_has ls 4 [(0, .ref (ad 0)), (1, .int (nI k))] := hl
  refine lv_bipush (v := -9) hx hb dX5_nearestHead_0 (by decide) ?_
  refine lv_istore_n (lv' := [(2, .int (-9)), (0, .ref (ad 0)), (1, .int (nI k))]) hx hb dX5_nearestHead_2 rfl hl (by decide) rfl (fun ls hl => ?_)
  refine lv_iconst (v := 0) hx hb dX5_nearestHead_3 (by decide) ?_
  refine lv_istore_n (lv' := [(3, .int 0), (2, .int (-9)), (0, .ref (ad 0)), (1, .int (nI k))]) hx hb dX5_nearestHead_4 rfl hl (by decide) rfl (fun ls hl => ?_)
  have loop1 : ∀ (f1 h : Nat) (H : Heap) (locs : List Loc) (ls : Array Slot), h ≤ n → n < h + f1 → zMP G ad Y n g τ H → va_S A s.heap H locs → lv_has ls 4 [(3, .int (nI h)), (2, .int (zOi (zIt (zNmS τ k) h none))), (0, .ref (ad 0)), (1, .int (nI k))] → W p l e ({ frames := 3, cells := 0, slots := 0, locals := 69 } : Room) s m ([.ref (ad 0), .int (nI k)] : List Value).toArray below meth c H locs 0 0 (MQ below (zQi G (zOi (zNm n τ k)) (zMP G ad Y n g τ) A) ([.ref (ad 0), .int (nI k)] : List Value).toArray s 0 0 A) (F0 m 5 ls []) := by
    intro f1
    induction f1 with
    | zero => intro h H locs ls h1 h2; exact absurd h2 (by omega)
    | succ f1 ih1 =>
      intro h H locs ls hk1 hf1 hM hS hl
      generalize hF_o : zIt (zNmS τ k) h none = o at hM hl 
      rcases o with _ | b
      · skip
        have hl : lv_has ls 4 [(3, .int (nI h)), (2, .int (-9)), (0, .ref (ad 0)), (1, .int (nI k))] := hl
        refine lv_iload_n hx hb dX5_nearestHead_5 rfl (lv_at hl 0 rfl) ?_
        refine lv_aload_n hx hb dX5_nearestHead_6 rfl (lv_at hl 2 rfl) ?_
        refine z_getM (v := .ref (ad 1)) hx hb hts hown in_X5_nearestHead_X5 hK hM 1 (by decide) rfl (hts _ (List.mem_of_getElem? (i := 1) (by decide +kernel))) rfl dX5_nearestHead_7 ?_
        refine lv_iconst (v := 0) hx hb dX5_nearestHead_10 (by decide) ?_
        refine z_ldM (w := nI n) hx hb hK hM 1 rfl 0 (by decide) (by decide) (by decide) rfl dX5_nearestHead_11 ?_
        refine lv_icmp_ge (tgt := 52) hx hb dX5_nearestHead_12 (by decide) (fun c_1 => ?_) (fun c_2 => ?_)
        · skip
          have c_1 := (z_leI (a := n) (b := h) (by omega) (by omega)).mp c_1
          have hkn1 : h = n := by omega
          rw [hkn1] at hF_o
          refine lv_iload_n hx hb dX5_nearestHead_52 rfl (lv_at hl 1 rfl) ?_
          refine z_top (x2 := zOi (zNm n τ k)) (by first | with_reducible rfl | (simp only [zNm, zOi, c_1, hF_o, eq_self, ne_eq, not_true_eq_false, not_false_eq_true, and_true, true_and, and_self, and_false, false_and, true_or, or_true, false_or, or_false, reduceIte]; done) | (simp [zNm, zOi, c_1, hF_o]; done) | rfl | (simp_all [zNm, zOi]; done)) ?_
          exact z_iret hx hb hr hlk hK hS (hM) dX5_nearestHead_53
        · skip
          have c_2 := (not_congr (z_leI (a := n) (b := h) (by omega) (by omega))).mp c_2
          refine lv_aload_n hx hb dX5_nearestHead_15 rfl (lv_at hl 2 rfl) ?_
          refine lv_iload_n hx hb dX5_nearestHead_16 rfl (lv_at hl 0 rfl) ?_
          refine z_vi (As := [.int (nI h)]) (rest := []) (P2 := zMP G ad Y n g τ) (r := zBi (τ 7 h = nI h)) S (c_X5_isHead l G A ad Y n g hA hn12  τ h (by omega)) (cwV 1 hts gX5_nearestHead_X5_isHead rfl rfl rfl (by decide +kernel) ⟨Nat.le_of_ble_eq_true rfl, Nat.le_of_ble_eq_true rfl⟩) (z_recM hK hM) hM hK hS (fun _ _ h => h) (fun _ h => h) hl.1 rfl rfl (Nat.le_of_ble_eq_true rfl) dX5_nearestHead_17 ⟨Nat.le_refl _, Nat.le_refl _⟩ (fun H locs hM hS _ => ?_)
          refine lv_if_eq (tgt := 46) hx hb dX5_nearestHead_20 (by decide) (fun c_3 => ?_) (fun c_4 => ?_)
          · skip
            have c_3 := zBi_0.mp c_3
            refine lv_iinc (v := nI (h + 1)) (lv' := [(3, .int (nI (h + 1))), (2, .int (-9)), (0, .ref (ad 0)), (1, .int (nI k))]) hx hb dX5_nearestHead_46 hl (k := 0) rfl (nI_1 _) (by decide) rfl (fun ls hl => ?_)
            refine lv_goto (tgt := 5) hx hb dX5_nearestHead_49 (by decide) ?_
            have e_5 : zIt (zNmS τ k) (h + 1) none = none := by
              rw [zIt_s, hF_o]
              first | with_reducible rfl | (simp only [zNmS, zDsO, c_2, c_3, eq_self, ne_eq, not_true_eq_false, not_false_eq_true, and_true, true_and, and_self, and_false, false_and, true_or, or_true, false_or, or_false, reduceIte]; done) | (simp [zNmS, zDsO, c_2, c_3]; done) | rfl | (simp_all [zNmS, zDsO]; done)
            refine ih1 (h + 1) _ _ _ (by omega) (by omega) ?_ hS ?_
            · first | exact hM | (rw [e_5]; exact hM)
            · first | exact lv_sub hl [0, 1, 2, 3] rfl | (rw [e_5]; exact lv_sub hl [0, 1, 2, 3] rfl)
          · skip
            have c_4 := zBi_n0.mp c_4
            refine lv_iload_n hx hb dX5_nearestHead_23 rfl (lv_at hl 1 rfl) ?_
            refine lv_bipush (v := -9) hx hb dX5_nearestHead_24 (by decide) ?_
            refine lv_icmp_eq (tgt := 44) hx hb dX5_nearestHead_26 (by decide) (fun _ => ?_) (fun q => absurd (by decide) q)
            refine lv_iload_n hx hb dX5_nearestHead_44 rfl (lv_at hl 0 rfl) ?_
            refine lv_istore_n (lv' := [(2, .int (nI h)), (3, .int (nI h)), (0, .ref (ad 0)), (1, .int (nI k))]) hx hb dX5_nearestHead_45 rfl hl (by decide) rfl (fun ls hl => ?_)
            refine lv_iinc (v := nI (h + 1)) (lv' := [(3, .int (nI (h + 1))), (2, .int (nI h)), (0, .ref (ad 0)), (1, .int (nI k))]) hx hb dX5_nearestHead_46 hl (k := 1) rfl (nI_1 _) (by decide) rfl (fun ls hl => ?_)
            refine lv_goto (tgt := 5) hx hb dX5_nearestHead_49 (by decide) ?_
            have e_6 : zIt (zNmS τ k) (h + 1) none = some h := by
              rw [zIt_s, hF_o]
              first | with_reducible rfl | (simp only [zNmS, zDsO, c_2, c_4, eq_self, ne_eq, not_true_eq_false, not_false_eq_true, and_true, true_and, and_self, and_false, false_and, true_or, or_true, false_or, or_false, reduceIte]; done) | (simp [zNmS, zDsO, c_2, c_4]; done) | rfl | (simp_all [zNmS, zDsO]; done)
            refine ih1 (h + 1) _ _ _ (by omega) (by omega) ?_ hS ?_
            · first | exact hM | (rw [e_6]; exact hM)
            · first | exact lv_sub hl [0, 1, 2, 3] rfl | (rw [e_6]; exact lv_sub hl [0, 1, 2, 3] rfl)
      · skip
        have hb1 : b < h := zNm_lt n τ k h b hF_o
        have hb2 : b < n := by omega
        have hl : lv_has ls 4 [(3, .int (nI h)), (2, .int (nI b)), (0, .ref (ad 0)), (1, .int (nI k))] := hl
        refine lv_iload_n hx hb dX5_nearestHead_5 rfl (lv_at hl 0 rfl) ?_
        refine lv_aload_n hx hb dX5_nearestHead_6 rfl (lv_at hl 2 rfl) ?_
        refine z_getM (v := .ref (ad 1)) hx hb hts hown in_X5_nearestHead_X5 hK hM 1 (by decide) rfl (hts _ (List.mem_of_getElem? (i := 1) (by decide +kernel))) rfl dX5_nearestHead_7 ?_
        refine lv_iconst (v := 0) hx hb dX5_nearestHead_10 (by decide) ?_
        refine z_ldM (w := nI n) hx hb hK hM 1 rfl 0 (by decide) (by decide) (by decide) rfl dX5_nearestHead_11 ?_
        refine lv_icmp_ge (tgt := 52) hx hb dX5_nearestHead_12 (by decide) (fun c_7 => ?_) (fun c_8 => ?_)
        · skip
          have c_7 := (z_leI (a := n) (b := h) (by omega) (by omega)).mp c_7
          have hkn1 : h = n := by omega
          rw [hkn1] at hF_o
          refine lv_iload_n hx hb dX5_nearestHead_52 rfl (lv_at hl 1 rfl) ?_
          refine z_top (x2 := zOi (zNm n τ k)) (by first | with_reducible rfl | (simp only [zNm, zOi, c_7, hF_o, eq_self, ne_eq, not_true_eq_false, not_false_eq_true, and_true, true_and, and_self, and_false, false_and, true_or, or_true, false_or, or_false, reduceIte]; done) | (simp [zNm, zOi, c_7, hF_o]; done) | rfl | (simp_all [zNm, zOi]; done)) ?_
          exact z_iret hx hb hr hlk hK hS (hM) dX5_nearestHead_53
        · skip
          have c_8 := (not_congr (z_leI (a := n) (b := h) (by omega) (by omega))).mp c_8
          refine lv_aload_n hx hb dX5_nearestHead_15 rfl (lv_at hl 2 rfl) ?_
          refine lv_iload_n hx hb dX5_nearestHead_16 rfl (lv_at hl 0 rfl) ?_
          refine z_vi (As := [.int (nI h)]) (rest := []) (P2 := zMP G ad Y n g τ) (r := zBi (τ 7 h = nI h)) S (c_X5_isHead l G A ad Y n g hA hn12  τ h (by omega)) (cwV 1 hts gX5_nearestHead_X5_isHead rfl rfl rfl (by decide +kernel) ⟨Nat.le_of_ble_eq_true rfl, Nat.le_of_ble_eq_true rfl⟩) (z_recM hK hM) hM hK hS (fun _ _ h => h) (fun _ h => h) hl.1 rfl rfl (Nat.le_of_ble_eq_true rfl) dX5_nearestHead_17 ⟨Nat.le_refl _, Nat.le_refl _⟩ (fun H locs hM hS _ => ?_)
          refine lv_if_eq (tgt := 46) hx hb dX5_nearestHead_20 (by decide) (fun c_9 => ?_) (fun c_10 => ?_)
          · skip
            have c_9 := zBi_0.mp c_9
            refine lv_iinc (v := nI (h + 1)) (lv' := [(3, .int (nI (h + 1))), (2, .int (nI b)), (0, .ref (ad 0)), (1, .int (nI k))]) hx hb dX5_nearestHead_46 hl (k := 0) rfl (nI_1 _) (by decide) rfl (fun ls hl => ?_)
            refine lv_goto (tgt := 5) hx hb dX5_nearestHead_49 (by decide) ?_
            have e_11 : zIt (zNmS τ k) (h + 1) none = some b := by
              rw [zIt_s, hF_o]
              first | with_reducible rfl | (simp only [zNmS, zDsO, c_8, c_9, eq_self, ne_eq, not_true_eq_false, not_false_eq_true, and_true, true_and, and_self, and_false, false_and, true_or, or_true, false_or, or_false, reduceIte]; done) | (simp [zNmS, zDsO, c_8, c_9]; done) | rfl | (simp_all [zNmS, zDsO]; done)
            refine ih1 (h + 1) _ _ _ (by omega) (by omega) ?_ hS ?_
            · first | exact hM | (rw [e_11]; exact hM)
            · first | exact lv_sub hl [0, 1, 2, 3] rfl | (rw [e_11]; exact lv_sub hl [0, 1, 2, 3] rfl)
          · skip
            have c_10 := zBi_n0.mp c_10
            refine lv_iload_n hx hb dX5_nearestHead_23 rfl (lv_at hl 1 rfl) ?_
            refine lv_bipush (v := -9) hx hb dX5_nearestHead_24 (by decide) ?_
            refine lv_icmp_eq (tgt := 44) hx hb dX5_nearestHead_26 (by decide) (fun q => absurd q (zOi_lt (by omega))) (fun _ => ?_)
            refine lv_aload_n hx hb dX5_nearestHead_29 rfl (lv_at hl 2 rfl) ?_
            refine lv_iload_n hx hb dX5_nearestHead_30 rfl (lv_at hl 3 rfl) ?_
            refine lv_iload_n hx hb dX5_nearestHead_31 rfl (lv_at hl 0 rfl) ?_
            refine z_vi (As := [.int (nI k), .int (nI h)]) (rest := []) (P2 := zMP G ad Y n g τ) (r := zDs τ k h) S (c_X5_distance l G A ad Y n g hA hn12  τ k h (by omega) (by omega)) (cwV 2 hts gX5_nearestHead_X5_distance rfl rfl rfl (by decide +kernel) ⟨Nat.le_of_ble_eq_true rfl, Nat.le_of_ble_eq_true rfl⟩) (z_recM hK hM) hM hK hS (fun _ _ h => h) (fun _ h => h) hl.1 rfl rfl (Nat.le_of_ble_eq_true rfl) dX5_nearestHead_32 ⟨Nat.le_refl _, Nat.le_refl _⟩ (fun H locs hM hS _ => ?_)
            refine lv_aload_n hx hb dX5_nearestHead_35 rfl (lv_at hl 2 rfl) ?_
            refine lv_iload_n hx hb dX5_nearestHead_36 rfl (lv_at hl 3 rfl) ?_
            refine lv_iload_n hx hb dX5_nearestHead_37 rfl (lv_at hl 1 rfl) ?_
            refine z_vi (As := [.int (nI k), .int (nI b)]) (rest := [.int (zDs τ k h)]) (P2 := zMP G ad Y n g τ) (r := zDs τ k b) S (c_X5_distance l G A ad Y n g hA hn12  τ k b (by omega) (by omega)) (cwV 2 hts gX5_nearestHead_X5_distance rfl rfl rfl (by decide +kernel) ⟨Nat.le_of_ble_eq_true rfl, Nat.le_of_ble_eq_true rfl⟩) (z_recM hK hM) hM hK hS (fun _ _ h => h) (fun _ h => h) hl.1 rfl rfl (Nat.le_of_ble_eq_true rfl) dX5_nearestHead_38 ⟨Nat.le_refl _, Nat.le_refl _⟩ (fun H locs hM hS _ => ?_)
            refine lv_icmp_ge (tgt := 46) hx hb dX5_nearestHead_41 (by decide) (fun c_12 => ?_) (fun c_13 => ?_)
            · skip
              have c_12 := Int32.not_lt.mpr c_12
              refine lv_iinc (v := nI (h + 1)) (lv' := [(3, .int (nI (h + 1))), (2, .int (nI b)), (0, .ref (ad 0)), (1, .int (nI k))]) hx hb dX5_nearestHead_46 hl (k := 0) rfl (nI_1 _) (by decide) rfl (fun ls hl => ?_)
              refine lv_goto (tgt := 5) hx hb dX5_nearestHead_49 (by decide) ?_
              have e_14 : zIt (zNmS τ k) (h + 1) none = some b := by
                rw [zIt_s, hF_o]
                first | with_reducible rfl | (simp only [zNmS, zDsO, c_8, c_10, c_12, eq_self, ne_eq, not_true_eq_false, not_false_eq_true, and_true, true_and, and_self, and_false, false_and, true_or, or_true, false_or, or_false, reduceIte]; done) | (simp [zNmS, zDsO, c_8, c_10, c_12]; done) | rfl | (simp_all [zNmS, zDsO]; done)
              refine ih1 (h + 1) _ _ _ (by omega) (by omega) ?_ hS ?_
              · first | exact hM | (rw [e_14]; exact hM)
              · first | exact lv_sub hl [0, 1, 2, 3] rfl | (rw [e_14]; exact lv_sub hl [0, 1, 2, 3] rfl)
            · skip
              have c_13 := Int32.not_le.mp c_13
              refine lv_iload_n hx hb dX5_nearestHead_44 rfl (lv_at hl 0 rfl) ?_
              refine lv_istore_n (lv' := [(2, .int (nI h)), (3, .int (nI h)), (0, .ref (ad 0)), (1, .int (nI k))]) hx hb dX5_nearestHead_45 rfl hl (by decide) rfl (fun ls hl => ?_)
              refine lv_iinc (v := nI (h + 1)) (lv' := [(3, .int (nI (h + 1))), (2, .int (nI h)), (0, .ref (ad 0)), (1, .int (nI k))]) hx hb dX5_nearestHead_46 hl (k := 1) rfl (nI_1 _) (by decide) rfl (fun ls hl => ?_)
              refine lv_goto (tgt := 5) hx hb dX5_nearestHead_49 (by decide) ?_
              have e_15 : zIt (zNmS τ k) (h + 1) none = some h := by
                rw [zIt_s, hF_o]
                first | with_reducible rfl | (simp only [zNmS, zDsO, c_8, c_10, c_13, eq_self, ne_eq, not_true_eq_false, not_false_eq_true, and_true, true_and, and_self, and_false, false_and, true_or, or_true, false_or, or_false, reduceIte]; done) | (simp [zNmS, zDsO, c_8, c_10, c_13]; done) | rfl | (simp_all [zNmS, zDsO]; done)
              refine ih1 (h + 1) _ _ _ (by omega) (by omega) ?_ hS ?_
              · first | exact hM | (rw [e_15]; exact hM)
              · first | exact lv_sub hl [0, 1, 2, 3] rfl | (rw [e_15]; exact lv_sub hl [0, 1, 2, 3] rfl)
  exact loop1 (n + 1) 0 _ _ _ (by omega) (by omega) hM hS (lv_sub hl [0, 1, 2, 3] rfl)

theorem in_X5_join_X5 : ∀ w ∈ wsX50, w ∈ wsX5_join := by decide +kernel
set_option maxHeartbeats 4000000 in
set_option maxRecDepth 100000 in
theorem c_X5_join (l : Launch) (G : zG) (A : Nat → Prop) (ad : Nat → Nat) (Y : zY) (n : Nat) (g : Nat → Int32) (hA : zAm G ad A) (hn12 : n ≤ 12) (τ : zT) : zMv l G A yX5_join wsX5_join 4 92 [.ref (ad 0)] (zMP G ad Y n g τ) (zMP G ad Y n g (zIt (zJmS n) n τ)) := by
  refine z_met (cc := cX5_join) (maxL := 5) (ret := none) (by decide) rfl (Nat.le_of_ble_eq_true rfl) ?_
  intro p e s m below meth c ls S hr hlk hnm hM hK hl
  have S : CallFix p m c cX5_join 5 s _ wsX5_join RX5 := S
  obtain ⟨hx, hb, hml, hown, hts⟩ := id S
  have hS : va_S A s.heap s.heap [] := va_S.rf
  have hl : lv_has ls 5 [(0, .ref (ad 0))] := hl
  refine lv_iconst (v := 0) hx hb dX5_join_0 (by decide) ?_
  refine lv_istore_n (lv' := [(1, .int 0), (0, .ref (ad 0))]) hx hb dX5_join_1 rfl hl (by decide) rfl (fun ls hl => ?_)
  have loop1 : ∀ (f1 k : Nat) (H : Heap) (locs : List Loc) (ls : Array Slot), k ≤ n → n < k + f1 → zMP G ad Y n g (zIt (zJmS n) k τ) H → va_S A s.heap H locs → lv_has ls 5 [(1, .int (nI k)), (0, .ref (ad 0))] → W p l e ({ frames := 4, cells := 0, slots := 0, locals := 92 } : Room) s m ([.ref (ad 0)] : List Value).toArray below meth c H locs 0 0 (MQ below (zQv G (zMP G ad Y n g (zIt (zJmS n) n τ)) A) ([.ref (ad 0)] : List Value).toArray s 0 0 A) (F0 m 2 ls []) := by
    intro f1
    induction f1 with
    | zero => intro k H locs ls h1 h2; exact absurd h2 (by omega)
    | succ f1 ih1 =>
      intro k H locs ls hk1 hf1 hM hS hl
      generalize hF_τk : zIt (zJmS n) k τ = τk at hM hl 
      refine lv_iload_n hx hb dX5_join_2 rfl (lv_at hl 0 rfl) ?_
      refine lv_aload_n hx hb dX5_join_3 rfl (lv_at hl 1 rfl) ?_
      refine z_getM (v := .ref (ad 1)) hx hb hts hown in_X5_join_X5 hK hM 1 (by decide) rfl (hts _ (List.mem_of_getElem? (i := 1) (by decide +kernel))) rfl dX5_join_4 ?_
      refine lv_iconst (v := 0) hx hb dX5_join_7 (by decide) ?_
      refine z_ldM (w := nI n) hx hb hK hM 1 rfl 0 (by decide) (by decide) (by decide) rfl dX5_join_8 ?_
      refine lv_icmp_ge (tgt := 119) hx hb dX5_join_9 (by decide) (fun c_1 => ?_) (fun c_2 => ?_)
      · skip
        have c_1 := (z_leI (a := n) (b := k) (by omega) (by omega)).mp c_1
        have hkn1 : k = n := by omega
        rw [hkn1] at hF_τk
        subst hF_τk
        exact z_vret hx hb hr hlk hK hS (hM.cast rfl rfl rfl (by first | with_reducible rfl | (simp only [c_1, eq_self, ne_eq, not_true_eq_false, not_false_eq_true, and_true, true_and, and_self, and_false, false_and, true_or, or_true, false_or, or_false, reduceIte]; done) | (simp [c_1]; done) | rfl | (simp_all []; done))) dX5_join_119
      · skip
        have c_2 := (not_congr (z_leI (a := n) (b := k) (by omega) (by omega))).mp c_2
        refine lv_aload_n hx hb dX5_join_12 rfl (lv_at hl 1 rfl) ?_
        refine lv_iload_n hx hb dX5_join_13 rfl (lv_at hl 0 rfl) ?_
        refine z_vi (As := [.int (nI k)]) (rest := []) (P2 := zMP G ad Y n g τk) (r := zBi (τk 3 k = 1)) S (c_X5_lives l G A ad Y n g hA hn12  τk k (by omega)) (cwV 1 hts gX5_join_X5_lives rfl rfl rfl (by decide +kernel) ⟨Nat.le_of_ble_eq_true rfl, Nat.le_of_ble_eq_true rfl⟩) (z_recM hK hM) hM hK hS (fun _ _ h => h) (fun _ h => h) hl.1 rfl rfl (Nat.le_of_ble_eq_true rfl) dX5_join_14 ⟨Nat.le_refl _, Nat.le_refl _⟩ (fun H locs hM hS _ => ?_)
        refine lv_if_eq (tgt := 113) hx hb dX5_join_17 (by decide) (fun c_3 => ?_) (fun c_4 => ?_)
        · skip
          have c_3 := zBi_0.mp c_3
          refine lv_iinc (v := nI (k + 1)) (lv' := [(1, .int (nI (k + 1))), (0, .ref (ad 0))]) hx hb dX5_join_113 hl (k := 0) rfl (nI_1 _) (by decide) rfl (fun ls hl => ?_)
          refine lv_goto (tgt := 2) hx hb dX5_join_116 (by decide) ?_
          have e_5 : zIt (zJmS n) (k + 1) τ = τk := by
            rw [zIt_s, hF_τk]
            first | with_reducible rfl | (simp only [zJmS, zJmO, zSl, c_2, c_3, eq_self, ne_eq, not_true_eq_false, not_false_eq_true, and_true, true_and, and_self, and_false, false_and, true_or, or_true, false_or, or_false, reduceIte]; done) | (simp [zJmS, zJmO, zSl, c_2, c_3]; done) | rfl | (simp_all [zJmS, zJmO, zSl]; done)
          refine ih1 (k + 1) _ _ _ (by omega) (by omega) ?_ hS ?_
          · first | exact hM | (rw [e_5]; exact hM)
          · first | exact lv_sub hl [0, 1] rfl | (rw [e_5]; exact lv_sub hl [0, 1] rfl)
        · skip
          have c_4 := zBi_n0.mp c_4
          refine lv_aload_n hx hb dX5_join_20 rfl (lv_at hl 1 rfl) ?_
          refine lv_iload_n hx hb dX5_join_21 rfl (lv_at hl 0 rfl) ?_
          refine z_vi (As := [.int (nI k)]) (rest := []) (P2 := zMP G ad Y n g τk) (r := zBi (τk 7 k = nI k)) S (c_X5_isHead l G A ad Y n g hA hn12  τk k (by omega)) (cwV 1 hts gX5_join_X5_isHead rfl rfl rfl (by decide +kernel) ⟨Nat.le_of_ble_eq_true rfl, Nat.le_of_ble_eq_true rfl⟩) (z_recM hK hM) hM hK hS (fun _ _ h => h) (fun _ h => h) hl.1 rfl rfl (Nat.le_of_ble_eq_true rfl) dX5_join_22 ⟨Nat.le_refl _, Nat.le_refl _⟩ (fun H locs hM hS _ => ?_)
          refine lv_if_ne (tgt := 113) hx hb dX5_join_25 (by decide) (fun c_6 => ?_) (fun c_7 => ?_)
          · skip
            have c_6 := zBi_n0.mp c_6
            refine lv_iinc (v := nI (k + 1)) (lv' := [(1, .int (nI (k + 1))), (0, .ref (ad 0))]) hx hb dX5_join_113 hl (k := 0) rfl (nI_1 _) (by decide) rfl (fun ls hl => ?_)
            refine lv_goto (tgt := 2) hx hb dX5_join_116 (by decide) ?_
            have e_8 : zIt (zJmS n) (k + 1) τ = τk := by
              rw [zIt_s, hF_τk]
              first | with_reducible rfl | (simp only [zJmS, zJmO, zSl, c_2, c_4, c_6, eq_self, ne_eq, not_true_eq_false, not_false_eq_true, and_true, true_and, and_self, and_false, false_and, true_or, or_true, false_or, or_false, reduceIte]; done) | (simp [zJmS, zJmO, zSl, c_2, c_4, c_6]; done) | rfl | (simp_all [zJmS, zJmO, zSl]; done)
            refine ih1 (k + 1) _ _ _ (by omega) (by omega) ?_ hS ?_
            · first | exact hM | (rw [e_8]; exact hM)
            · first | exact lv_sub hl [0, 1] rfl | (rw [e_8]; exact lv_sub hl [0, 1] rfl)
          · skip
            have c_7 := zBi_0.mp c_7
            refine lv_aload_n hx hb dX5_join_28 rfl (lv_at hl 1 rfl) ?_
            refine lv_iload_n hx hb dX5_join_29 rfl (lv_at hl 0 rfl) ?_
            refine z_vi (As := [.int (nI k)]) (rest := []) (P2 := zMP G ad Y n g τk) (r := zOi (zNm n τk k)) S (c_X5_nearestHead l G A ad Y n g hA hn12  τk k (by omega)) (cwV 1 hts gX5_join_X5_nearestHead rfl rfl rfl (by decide +kernel) ⟨Nat.le_of_ble_eq_true rfl, Nat.le_of_ble_eq_true rfl⟩) (z_recM hK hM) hM hK hS (fun _ _ h => h) (fun _ h => h) hl.1 rfl rfl (Nat.le_of_ble_eq_true rfl) dX5_join_30 ⟨Nat.le_refl _, Nat.le_refl _⟩ (fun H locs hM hS _ => ?_)
            rcases hO : zNm n τk k with _ | b
            · skip
              refine lv_istore_n (lv' := [(2, .int (-9)), (1, .int (nI k)), (0, .ref (ad 0))]) hx hb dX5_join_33 rfl hl (by decide) rfl (fun ls hl => ?_)
              refine lv_iconst (v := 0) hx hb dX5_join_34 (by decide) ?_
              refine lv_istore_n (lv' := [(3, .int 0), (2, .int (-9)), (1, .int (nI k)), (0, .ref (ad 0))]) hx hb dX5_join_35 rfl hl (by decide) rfl (fun ls hl => ?_)
              refine lv_iconst (v := 0) hx hb dX5_join_36 (by decide) ?_
              refine lv_istore (lv' := [(4, .int 0), (3, .int 0), (2, .int (-9)), (1, .int (nI k)), (0, .ref (ad 0))]) hx hb dX5_join_37 hl (by decide) rfl (fun ls hl => ?_)
              have loop2 : ∀ (f2 i : Nat) (H : Heap) (locs : List Loc) (ls : Array Slot), i ≤ k → k < i + f2 → zMP G ad Y n g τk H → va_S A s.heap H locs → lv_has ls 5 [(4, .int (nI i)), (3, .int (zIt (zSlS τk (-9)) i (0 : Int32))), (2, .int (-9)), (1, .int (nI k)), (0, .ref (ad 0))] → W p l e ({ frames := 4, cells := 0, slots := 0, locals := 92 } : Room) s m ([.ref (ad 0)] : List Value).toArray below meth c H locs 0 0 (MQ below (zQv G (zMP G ad Y n g (zIt (zJmS n) n τ)) A) ([.ref (ad 0)] : List Value).toArray s 0 0 A) (F0 m 39 ls []) := by
                intro f2
                induction f2 with
                | zero => intro i H locs ls h1 h2; exact absurd h2 (by omega)
                | succ f2 ih2 =>
                  intro i H locs ls hk2 hf2 hM hS hl
                  generalize hF_v : zIt (zSlS τk (-9)) i (0 : Int32) = v at hM hl 
                  refine lv_iload hx hb dX5_join_39 (lv_at hl 0 rfl) ?_
                  refine lv_iload_n hx hb dX5_join_41 rfl (lv_at hl 3 rfl) ?_
                  refine lv_icmp_ge (tgt := 86) hx hb dX5_join_42 (by decide) (fun c_9 => ?_) (fun c_10 => ?_)
                  · skip
                    have c_9 := (z_leI (a := k) (b := i) (by omega) (by omega)).mp c_9
                    have hkn2 : i = k := by omega
                    rw [hkn2] at hF_v
                    subst hF_v
                    refine lv_aload_n hx hb dX5_join_86 rfl (lv_at hl 4 rfl) ?_
                    refine lv_iload_n hx hb dX5_join_87 rfl (lv_at hl 3 rfl) ?_
                    refine lv_bipush (v := 7) hx hb dX5_join_88 (by decide) ?_
                    refine lv_iload_n hx hb dX5_join_90 rfl (lv_at hl 2 rfl) ?_
                    refine z_vv (As := [.int (nI k), .int 7, .int (-9)]) (rest := []) (P2 := zMP G ad Y n g (zSt τk 7 k (-9))) S (c_X5_set l G A ad Y n g hA hn12  τk k 7 (by omega) (by omega) (-9)) (cwV 3 hts gX5_join_X5_set rfl rfl rfl (by decide +kernel) ⟨Nat.le_of_ble_eq_true rfl, Nat.le_of_ble_eq_true rfl⟩) (z_recM hK hM) hM hK hS (fun _ _ h => h) (fun _ h => h) hl.1 rfl rfl (Nat.le_of_ble_eq_true rfl) dX5_join_91 ⟨Nat.le_refl _, Nat.le_refl _⟩ (fun H locs hM hS _ => ?_)
                    refine lv_aload_n hx hb dX5_join_94 rfl (lv_at hl 4 rfl) ?_
                    refine lv_iload_n hx hb dX5_join_95 rfl (lv_at hl 3 rfl) ?_
                    refine lv_bipush (v := 8) hx hb dX5_join_96 (by decide) ?_
                    refine lv_iload_n hx hb dX5_join_98 rfl (lv_at hl 2 rfl) ?_
                    refine lv_bipush (v := -9) hx hb dX5_join_99 (by decide) ?_
                    refine lv_icmp_ne (tgt := 109) hx hb dX5_join_101 (by decide) (fun q => absurd (by decide) q) (fun _ => ?_)
                    refine lv_bipush (v := -9) hx hb dX5_join_104 (by decide) ?_
                    refine lv_goto (tgt := 110) hx hb dX5_join_106 (by decide) ?_
                    refine z_vv (As := [.int (nI k), .int 8, .int (-9)]) (rest := []) (P2 := zMP G ad Y n g (zSt (zSt τk 7 k (-9)) 8 k (-9))) S (c_X5_set l G A ad Y n g hA hn12  (zSt τk 7 k (-9)) k 8 (by omega) (by omega) (-9)) (cwV 3 hts gX5_join_X5_set rfl rfl rfl (by decide +kernel) ⟨Nat.le_of_ble_eq_true rfl, Nat.le_of_ble_eq_true rfl⟩) (z_recM hK hM) hM hK hS (fun _ _ h => h) (fun _ h => h) hl.1 rfl rfl (Nat.le_of_ble_eq_true rfl) dX5_join_110 ⟨Nat.le_refl _, Nat.le_refl _⟩ (fun H locs hM hS _ => ?_)
                    refine lv_iinc (v := nI (k + 1)) (lv' := [(1, .int (nI (k + 1))), (4, .int (nI i)), (3, .int (zIt (zSlS τk (-9)) k (0 : Int32))), (2, .int (-9)), (0, .ref (ad 0))]) hx hb dX5_join_113 hl (k := 3) rfl (nI_1 _) (by decide) rfl (fun ls hl => ?_)
                    refine lv_goto (tgt := 2) hx hb dX5_join_116 (by decide) ?_
                    have e_11 : zIt (zJmS n) (k + 1) τ = zSt (zSt τk 7 k (-9)) 8 k (-9) := by
                      rw [zIt_s, hF_τk]
                      first | with_reducible rfl | (simp only [zJmS, zJmO, zSl, c_2, c_4, c_7, hO, c_9, eq_self, ne_eq, not_true_eq_false, not_false_eq_true, and_true, true_and, and_self, and_false, false_and, true_or, or_true, false_or, or_false, reduceIte]; done) | (simp [zJmS, zJmO, zSl, c_2, c_4, c_7, hO, c_9]; done) | rfl | (simp_all [zJmS, zJmO, zSl]; done)
                    refine ih1 (k + 1) _ _ _ (by omega) (by omega) ?_ hS ?_
                    · first | exact hM | (rw [e_11]; exact hM)
                    · first | exact lv_sub hl [0, 4] rfl | (rw [e_11]; exact lv_sub hl [0, 4] rfl)
                  · skip
                    have c_10 := (not_congr (z_leI (a := k) (b := i) (by omega) (by omega))).mp c_10
                    refine lv_iload_n hx hb dX5_join_45 rfl (lv_at hl 2 rfl) ?_
                    refine lv_bipush (v := -9) hx hb dX5_join_46 (by decide) ?_
                    refine lv_icmp_eq (tgt := 86) hx hb dX5_join_48 (by decide) (fun _ => ?_) (fun q => absurd (by decide) q)
                    refine lv_aload_n hx hb dX5_join_86 rfl (lv_at hl 4 rfl) ?_
                    refine lv_iload_n hx hb dX5_join_87 rfl (lv_at hl 3 rfl) ?_
                    refine lv_bipush (v := 7) hx hb dX5_join_88 (by decide) ?_
                    refine lv_iload_n hx hb dX5_join_90 rfl (lv_at hl 2 rfl) ?_
                    refine z_vv (As := [.int (nI k), .int 7, .int (-9)]) (rest := []) (P2 := zMP G ad Y n g (zSt τk 7 k (-9))) S (c_X5_set l G A ad Y n g hA hn12  τk k 7 (by omega) (by omega) (-9)) (cwV 3 hts gX5_join_X5_set rfl rfl rfl (by decide +kernel) ⟨Nat.le_of_ble_eq_true rfl, Nat.le_of_ble_eq_true rfl⟩) (z_recM hK hM) hM hK hS (fun _ _ h => h) (fun _ h => h) hl.1 rfl rfl (Nat.le_of_ble_eq_true rfl) dX5_join_91 ⟨Nat.le_refl _, Nat.le_refl _⟩ (fun H locs hM hS _ => ?_)
                    refine lv_aload_n hx hb dX5_join_94 rfl (lv_at hl 4 rfl) ?_
                    refine lv_iload_n hx hb dX5_join_95 rfl (lv_at hl 3 rfl) ?_
                    refine lv_bipush (v := 8) hx hb dX5_join_96 (by decide) ?_
                    refine lv_iload_n hx hb dX5_join_98 rfl (lv_at hl 2 rfl) ?_
                    refine lv_bipush (v := -9) hx hb dX5_join_99 (by decide) ?_
                    refine lv_icmp_ne (tgt := 109) hx hb dX5_join_101 (by decide) (fun q => absurd (by decide) q) (fun _ => ?_)
                    refine lv_bipush (v := -9) hx hb dX5_join_104 (by decide) ?_
                    refine lv_goto (tgt := 110) hx hb dX5_join_106 (by decide) ?_
                    refine z_vv (As := [.int (nI k), .int 8, .int (-9)]) (rest := []) (P2 := zMP G ad Y n g (zSt (zSt τk 7 k (-9)) 8 k (-9))) S (c_X5_set l G A ad Y n g hA hn12  (zSt τk 7 k (-9)) k 8 (by omega) (by omega) (-9)) (cwV 3 hts gX5_join_X5_set rfl rfl rfl (by decide +kernel) ⟨Nat.le_of_ble_eq_true rfl, Nat.le_of_ble_eq_true rfl⟩) (z_recM hK hM) hM hK hS (fun _ _ h => h) (fun _ h => h) hl.1 rfl rfl (Nat.le_of_ble_eq_true rfl) dX5_join_110 ⟨Nat.le_refl _, Nat.le_refl _⟩ (fun H locs hM hS _ => ?_)
                    refine lv_iinc (v := nI (k + 1)) (lv' := [(1, .int (nI (k + 1))), (4, .int (nI i)), (3, .int v), (2, .int (-9)), (0, .ref (ad 0))]) hx hb dX5_join_113 hl (k := 3) rfl (nI_1 _) (by decide) rfl (fun ls hl => ?_)
                    refine lv_goto (tgt := 2) hx hb dX5_join_116 (by decide) ?_
                    have e_12 : zIt (zJmS n) (k + 1) τ = zSt (zSt τk 7 k (-9)) 8 k (-9) := by
                      rw [zIt_s, hF_τk]
                      first | with_reducible rfl | (simp only [zJmS, zJmO, zSl, c_2, c_4, c_7, hO, c_10, eq_self, ne_eq, not_true_eq_false, not_false_eq_true, and_true, true_and, and_self, and_false, false_and, true_or, or_true, false_or, or_false, reduceIte]; done) | (simp [zJmS, zJmO, zSl, c_2, c_4, c_7, hO, c_10]; done) | rfl | (simp_all [zJmS, zJmO, zSl]; done)
                    refine ih1 (k + 1) _ _ _ (by omega) (by omega) ?_ hS ?_
                    · first | exact hM | (rw [e_12]; exact hM)
                    · first | exact lv_sub hl [0, 4] rfl | (rw [e_12]; exact lv_sub hl [0, 4] rfl)
              exact loop2 (k + 1) 0 _ _ _ (by omega) (by omega) hM hS (lv_sub hl [0, 1, 2, 3, 4] rfl)
            · skip
              have hb2 : b < n := zNm_lt n τk k n b hO
              refine lv_istore_n (lv' := [(2, .int (nI b)), (1, .int (nI k)), (0, .ref (ad 0))]) hx hb dX5_join_33 rfl hl (by decide) rfl (fun ls hl => ?_)
              refine lv_iconst (v := 0) hx hb dX5_join_34 (by decide) ?_
              refine lv_istore_n (lv' := [(3, .int 0), (2, .int (nI b)), (1, .int (nI k)), (0, .ref (ad 0))]) hx hb dX5_join_35 rfl hl (by decide) rfl (fun ls hl => ?_)
              refine lv_iconst (v := 0) hx hb dX5_join_36 (by decide) ?_
              refine lv_istore (lv' := [(4, .int 0), (3, .int 0), (2, .int (nI b)), (1, .int (nI k)), (0, .ref (ad 0))]) hx hb dX5_join_37 hl (by decide) rfl (fun ls hl => ?_)
              have loop3 : ∀ (f3 i : Nat) (H : Heap) (locs : List Loc) (ls : Array Slot), i ≤ k → k < i + f3 → zMP G ad Y n g τk H → va_S A s.heap H locs → lv_has ls 5 [(4, .int (nI i)), (3, .int (zIt (zSlS τk (nI b)) i (0 : Int32))), (2, .int (nI b)), (1, .int (nI k)), (0, .ref (ad 0))] → W p l e ({ frames := 4, cells := 0, slots := 0, locals := 92 } : Room) s m ([.ref (ad 0)] : List Value).toArray below meth c H locs 0 0 (MQ below (zQv G (zMP G ad Y n g (zIt (zJmS n) n τ)) A) ([.ref (ad 0)] : List Value).toArray s 0 0 A) (F0 m 39 ls []) := by
                intro f3
                induction f3 with
                | zero => intro i H locs ls h1 h2; exact absurd h2 (by omega)
                | succ f3 ih3 =>
                  intro i H locs ls hk3 hf3 hM hS hl
                  generalize hF_v : zIt (zSlS τk (nI b)) i (0 : Int32) = v at hM hl 
                  refine lv_iload hx hb dX5_join_39 (lv_at hl 0 rfl) ?_
                  refine lv_iload_n hx hb dX5_join_41 rfl (lv_at hl 3 rfl) ?_
                  refine lv_icmp_ge (tgt := 86) hx hb dX5_join_42 (by decide) (fun c_13 => ?_) (fun c_14 => ?_)
                  · skip
                    have c_13 := (z_leI (a := k) (b := i) (by omega) (by omega)).mp c_13
                    have hkn3 : i = k := by omega
                    rw [hkn3] at hF_v
                    subst hF_v
                    refine lv_aload_n hx hb dX5_join_86 rfl (lv_at hl 4 rfl) ?_
                    refine lv_iload_n hx hb dX5_join_87 rfl (lv_at hl 3 rfl) ?_
                    refine lv_bipush (v := 7) hx hb dX5_join_88 (by decide) ?_
                    refine lv_iload_n hx hb dX5_join_90 rfl (lv_at hl 2 rfl) ?_
                    refine z_vv (As := [.int (nI k), .int 7, .int (nI b)]) (rest := []) (P2 := zMP G ad Y n g (zSt τk 7 k (nI b))) S (c_X5_set l G A ad Y n g hA hn12  τk k 7 (by omega) (by omega) (nI b)) (cwV 3 hts gX5_join_X5_set rfl rfl rfl (by decide +kernel) ⟨Nat.le_of_ble_eq_true rfl, Nat.le_of_ble_eq_true rfl⟩) (z_recM hK hM) hM hK hS (fun _ _ h => h) (fun _ h => h) hl.1 rfl rfl (Nat.le_of_ble_eq_true rfl) dX5_join_91 ⟨Nat.le_refl _, Nat.le_refl _⟩ (fun H locs hM hS _ => ?_)
                    refine lv_aload_n hx hb dX5_join_94 rfl (lv_at hl 4 rfl) ?_
                    refine lv_iload_n hx hb dX5_join_95 rfl (lv_at hl 3 rfl) ?_
                    refine lv_bipush (v := 8) hx hb dX5_join_96 (by decide) ?_
                    refine lv_iload_n hx hb dX5_join_98 rfl (lv_at hl 2 rfl) ?_
                    refine lv_bipush (v := -9) hx hb dX5_join_99 (by decide) ?_
                    refine lv_icmp_ne (tgt := 109) hx hb dX5_join_101 (by decide) (fun _ => ?_) (fun q => absurd q (zOi_lt (by omega))) 
                    refine lv_iload_n hx hb dX5_join_109 rfl (lv_at hl 1 rfl) ?_
                    refine z_vv (As := [.int (nI k), .int 8, .int (zIt (zSlS τk (nI b)) k (0 : Int32))]) (rest := []) (P2 := zMP G ad Y n g (zSt (zSt τk 7 k (nI b)) 8 k (zIt (zSlS τk (nI b)) k (0 : Int32)))) S (c_X5_set l G A ad Y n g hA hn12  (zSt τk 7 k (nI b)) k 8 (by omega) (by omega) (zIt (zSlS τk (nI b)) k (0 : Int32))) (cwV 3 hts gX5_join_X5_set rfl rfl rfl (by decide +kernel) ⟨Nat.le_of_ble_eq_true rfl, Nat.le_of_ble_eq_true rfl⟩) (z_recM hK hM) hM hK hS (fun _ _ h => h) (fun _ h => h) hl.1 rfl rfl (Nat.le_of_ble_eq_true rfl) dX5_join_110 ⟨Nat.le_refl _, Nat.le_refl _⟩ (fun H locs hM hS _ => ?_)
                    refine lv_iinc (v := nI (k + 1)) (lv' := [(1, .int (nI (k + 1))), (4, .int (nI i)), (3, .int (zIt (zSlS τk (nI b)) k (0 : Int32))), (2, .int (nI b)), (0, .ref (ad 0))]) hx hb dX5_join_113 hl (k := 3) rfl (nI_1 _) (by decide) rfl (fun ls hl => ?_)
                    refine lv_goto (tgt := 2) hx hb dX5_join_116 (by decide) ?_
                    have e_15 : zIt (zJmS n) (k + 1) τ = zSt (zSt τk 7 k (nI b)) 8 k (zIt (zSlS τk (nI b)) k (0 : Int32)) := by
                      rw [zIt_s, hF_τk]
                      first | with_reducible rfl | (simp only [zJmS, zJmO, zSl, c_2, c_4, c_7, hO, c_13, eq_self, ne_eq, not_true_eq_false, not_false_eq_true, and_true, true_and, and_self, and_false, false_and, true_or, or_true, false_or, or_false, reduceIte]; done) | (simp [zJmS, zJmO, zSl, c_2, c_4, c_7, hO, c_13]; done) | rfl | (simp_all [zJmS, zJmO, zSl]; done)
                    refine ih1 (k + 1) _ _ _ (by omega) (by omega) ?_ hS ?_
                    · first | exact hM | (rw [e_15]; exact hM)
                    · first | exact lv_sub hl [0, 4] rfl | (rw [e_15]; exact lv_sub hl [0, 4] rfl)
                  · skip
                    have c_14 := (not_congr (z_leI (a := k) (b := i) (by omega) (by omega))).mp c_14
                    refine lv_iload_n hx hb dX5_join_45 rfl (lv_at hl 2 rfl) ?_
                    refine lv_bipush (v := -9) hx hb dX5_join_46 (by decide) ?_
                    refine lv_icmp_eq (tgt := 86) hx hb dX5_join_48 (by decide) (fun q => absurd q (zOi_lt (by omega))) (fun _ => ?_)
                    refine lv_iload_n hx hb dX5_join_51 rfl (lv_at hl 1 rfl) ?_
                    refine lv_aload_n hx hb dX5_join_52 rfl (lv_at hl 4 rfl) ?_
                    refine lv_iload hx hb dX5_join_53 (lv_at hl 0 rfl) ?_
                    refine z_vi (As := [.int (nI i)]) (rest := [.int v]) (P2 := zMP G ad Y n g τk) (r := zBi (τk 7 i = nI i)) S (c_X5_isHead l G A ad Y n g hA hn12  τk i (by omega)) (cwV 1 hts gX5_join_X5_isHead rfl rfl rfl (by decide +kernel) ⟨Nat.le_of_ble_eq_true rfl, Nat.le_of_ble_eq_true rfl⟩) (z_recM hK hM) hM hK hS (fun _ _ h => h) (fun _ h => h) hl.1 rfl rfl (Nat.le_of_ble_eq_true rfl) dX5_join_55 ⟨Nat.le_refl _, Nat.le_refl _⟩ (fun H locs hM hS _ => ?_)
                    refine lv_if_ne (tgt := 77) hx hb dX5_join_58 (by decide) (fun c_16 => ?_) (fun c_17 => ?_)
                    · skip
                      have c_16 := zBi_n0.mp c_16
                      refine lv_iconst (v := 0) hx hb dX5_join_77 (by decide) ?_
                      refine lv_iadd hx hb dX5_join_78 ?_
                      refine lv_istore_n (lv' := [(3, .int (v + 0)), (4, .int (nI i)), (2, .int (nI b)), (1, .int (nI k)), (0, .ref (ad 0))]) hx hb dX5_join_79 rfl hl (by decide) rfl (fun ls hl => ?_)
                      refine lv_iinc (v := nI (i + 1)) (lv' := [(4, .int (nI (i + 1))), (3, .int (v + 0)), (2, .int (nI b)), (1, .int (nI k)), (0, .ref (ad 0))]) hx hb dX5_join_80 hl (k := 1) rfl (nI_1 _) (by decide) rfl (fun ls hl => ?_)
                      refine lv_goto (tgt := 39) hx hb dX5_join_83 (by decide) ?_
                      have e_18 : zIt (zSlS τk (nI b)) (i + 1) (0 : Int32) = v + 0 := by
                        rw [zIt_s, hF_v]
                        first | with_reducible rfl | (simp only [zSlS, c_2, c_4, c_7, hO, c_14, c_16, eq_self, ne_eq, not_true_eq_false, not_false_eq_true, and_true, true_and, and_self, and_false, false_and, true_or, or_true, false_or, or_false, reduceIte]; done) | (simp [zSlS, c_2, c_4, c_7, hO, c_14, c_16]; done) | rfl | (simp_all [zSlS]; done)
                      refine ih3 (i + 1) _ _ _ (by omega) (by omega) ?_ hS ?_
                      · first | exact hM | (rw [e_18]; exact hM)
                      · first | exact lv_sub hl [0, 1, 2, 3, 4] rfl | (rw [e_18]; exact lv_sub hl [0, 1, 2, 3, 4] rfl)
                    · skip
                      have c_17 := zBi_0.mp c_17
                      refine lv_aload_n hx hb dX5_join_61 rfl (lv_at hl 4 rfl) ?_
                      refine lv_iload hx hb dX5_join_62 (lv_at hl 0 rfl) ?_
                      refine lv_bipush (v := 7) hx hb dX5_join_64 (by decide) ?_
                      refine z_vi (As := [.int (nI i), .int 7]) (rest := [.int v]) (P2 := zMP G ad Y n g τk) (r := τk 7 i) S (c_X5_of l G A ad Y n g hA hn12  τk i 7 (by omega) (by omega)) (cwV 2 hts gX5_join_X5_of rfl rfl rfl (by decide +kernel) ⟨Nat.le_of_ble_eq_true rfl, Nat.le_of_ble_eq_true rfl⟩) (z_recM hK hM) hM hK hS (fun _ _ h => h) (fun _ h => h) hl.1 rfl rfl (Nat.le_of_ble_eq_true rfl) dX5_join_66 ⟨Nat.le_refl _, Nat.le_refl _⟩ (fun H locs hM hS _ => ?_)
                      refine lv_iload_n hx hb dX5_join_69 rfl (lv_at hl 2 rfl) ?_
                      refine lv_icmp_ne (tgt := 77) hx hb dX5_join_70 (by decide) (fun c_19 => ?_) (fun c_20 => ?_)
                      · skip
                        refine lv_iconst (v := 0) hx hb dX5_join_77 (by decide) ?_
                        refine lv_iadd hx hb dX5_join_78 ?_
                        refine lv_istore_n (lv' := [(3, .int (v + 0)), (4, .int (nI i)), (2, .int (nI b)), (1, .int (nI k)), (0, .ref (ad 0))]) hx hb dX5_join_79 rfl hl (by decide) rfl (fun ls hl => ?_)
                        refine lv_iinc (v := nI (i + 1)) (lv' := [(4, .int (nI (i + 1))), (3, .int (v + 0)), (2, .int (nI b)), (1, .int (nI k)), (0, .ref (ad 0))]) hx hb dX5_join_80 hl (k := 1) rfl (nI_1 _) (by decide) rfl (fun ls hl => ?_)
                        refine lv_goto (tgt := 39) hx hb dX5_join_83 (by decide) ?_
                        have e_21 : zIt (zSlS τk (nI b)) (i + 1) (0 : Int32) = v + 0 := by
                          rw [zIt_s, hF_v]
                          first | with_reducible rfl | (simp only [zSlS, c_2, c_4, c_7, hO, c_14, c_17, c_19, eq_self, ne_eq, not_true_eq_false, not_false_eq_true, and_true, true_and, and_self, and_false, false_and, true_or, or_true, false_or, or_false, reduceIte]; done) | (simp [zSlS, c_2, c_4, c_7, hO, c_14, c_17, c_19]; done) | rfl | (simp_all [zSlS]; done)
                        refine ih3 (i + 1) _ _ _ (by omega) (by omega) ?_ hS ?_
                        · first | exact hM | (rw [e_21]; exact hM)
                        · first | exact lv_sub hl [0, 1, 2, 3, 4] rfl | (rw [e_21]; exact lv_sub hl [0, 1, 2, 3, 4] rfl)
                      · skip
                        refine lv_iconst (v := 1) hx hb dX5_join_73 (by decide) ?_
                        refine lv_goto (tgt := 78) hx hb dX5_join_74 (by decide) ?_
                        refine lv_iadd hx hb dX5_join_78 ?_
                        refine lv_istore_n (lv' := [(3, .int (v + 1)), (4, .int (nI i)), (2, .int (nI b)), (1, .int (nI k)), (0, .ref (ad 0))]) hx hb dX5_join_79 rfl hl (by decide) rfl (fun ls hl => ?_)
                        refine lv_iinc (v := nI (i + 1)) (lv' := [(4, .int (nI (i + 1))), (3, .int (v + 1)), (2, .int (nI b)), (1, .int (nI k)), (0, .ref (ad 0))]) hx hb dX5_join_80 hl (k := 1) rfl (nI_1 _) (by decide) rfl (fun ls hl => ?_)
                        refine lv_goto (tgt := 39) hx hb dX5_join_83 (by decide) ?_
                        have e_22 : zIt (zSlS τk (nI b)) (i + 1) (0 : Int32) = v + 1 := by
                          rw [zIt_s, hF_v]
                          first | with_reducible rfl | (simp only [zSlS, c_2, c_4, c_7, hO, c_14, c_17, c_20, eq_self, ne_eq, not_true_eq_false, not_false_eq_true, and_true, true_and, and_self, and_false, false_and, true_or, or_true, false_or, or_false, reduceIte]; done) | (simp [zSlS, c_2, c_4, c_7, hO, c_14, c_17, c_20]; done) | rfl | (simp_all [zSlS]; done)
                        refine ih3 (i + 1) _ _ _ (by omega) (by omega) ?_ hS ?_
                        · first | exact hM | (rw [e_22]; exact hM)
                        · first | exact lv_sub hl [0, 1, 2, 3, 4] rfl | (rw [e_22]; exact lv_sub hl [0, 1, 2, 3, 4] rfl)
              exact loop3 (k + 1) 0 _ _ _ (by omega) (by omega) hM hS (lv_sub hl [0, 1, 2, 3, 4] rfl)
  exact loop1 (n + 1) 0 _ _ _ (by omega) (by omega) hM hS (lv_sub hl [0, 1] rfl)

theorem in_X5_report_X5 : ∀ w ∈ wsX50, w ∈ wsX5_report := by decide +kernel
set_option maxHeartbeats 4000000 in
set_option maxRecDepth 100000 in
theorem c_X5_report (l : Launch) (G : zG) (A : Nat → Prop) (ad : Nat → Nat) (Y : zY) (n : Nat) (g : Nat → Int32) (hA : zAm G ad A) (hn12 : n ≤ 12) (hd5 : 0 < g 5) (τ : zT) : zMv l G A yX5_report wsX5_report 3 69 [.ref (ad 0)] (zMP G ad Y n g τ) (zMP G ad Y n g (zIt (zOwS g) n (zIt (zRm n g) n τ))) := by
  refine z_met (cc := cX5_report) (maxL := 4) (ret := none) (by decide) rfl (Nat.le_of_ble_eq_true rfl) ?_
  intro p e s m below meth c ls S hr hlk hnm hM hK hl
  have S : CallFix p m c cX5_report 4 s _ wsX5_report RX5 := S
  obtain ⟨hx, hb, hml, hown, hts⟩ := id S
  have hS : va_S A s.heap s.heap [] := va_S.rf
  have hl : lv_has ls 4 [(0, .ref (ad 0))] := hl
  refine lv_iconst (v := 0) hx hb dX5_report_0 (by decide) ?_
  refine lv_istore_n (lv' := [(1, .int 0), (0, .ref (ad 0))]) hx hb dX5_report_1 rfl hl (by decide) rfl (fun ls hl => ?_)
  have loop1 : ∀ (f1 h : Nat) (H : Heap) (locs : List Loc) (ls : Array Slot), h ≤ n → n < h + f1 → zMP G ad Y n g (zIt (zRm n g) h τ) H → va_S A s.heap H locs → lv_has ls 4 [(1, .int (nI h)), (0, .ref (ad 0))] → W p l e ({ frames := 3, cells := 0, slots := 0, locals := 69 } : Room) s m ([.ref (ad 0)] : List Value).toArray below meth c H locs 0 0 (MQ below (zQv G (zMP G ad Y n g (zIt (zOwS g) n (zIt (zRm n g) n τ))) A) ([.ref (ad 0)] : List Value).toArray s 0 0 A) (F0 m 2 ls []) := by
    intro f1
    induction f1 with
    | zero => intro h H locs ls h1 h2; exact absurd h2 (by omega)
    | succ f1 ih1 =>
      intro h H locs ls hk1 hf1 hM hS hl
      generalize hF_τh : zIt (zRm n g) h τ = τh at hM hl 
      refine lv_iload_n hx hb dX5_report_2 rfl (lv_at hl 0 rfl) ?_
      refine lv_aload_n hx hb dX5_report_3 rfl (lv_at hl 1 rfl) ?_
      refine z_getM (v := .ref (ad 1)) hx hb hts hown in_X5_report_X5 hK hM 1 (by decide) rfl (hts _ (List.mem_of_getElem? (i := 1) (by decide +kernel))) rfl dX5_report_4 ?_
      refine lv_iconst (v := 0) hx hb dX5_report_7 (by decide) ?_
      refine z_ldM (w := nI n) hx hb hK hM 1 rfl 0 (by decide) (by decide) (by decide) rfl dX5_report_8 ?_
      refine lv_icmp_ge (tgt := 114) hx hb dX5_report_9 (by decide) (fun c_1 => ?_) (fun c_2 => ?_)
      · skip
        have c_1 := (z_leI (a := n) (b := h) (by omega) (by omega)).mp c_1
        have hkn1 : h = n := by omega
        rw [hkn1] at hF_τh
        subst hF_τh
        refine lv_iconst (v := 0) hx hb dX5_report_114 (by decide) ?_
        refine lv_istore_n (lv' := [(1, .int 0), (0, .ref (ad 0))]) hx hb dX5_report_115 rfl hl (by decide) rfl (fun ls hl => ?_)
        have loop2 : ∀ (f2 j : Nat) (H : Heap) (locs : List Loc) (ls : Array Slot), j ≤ n → n < j + f2 → zMP G ad Y n g (zIt (zOwS g) j (zIt (zRm n g) n τ)) H → va_S A s.heap H locs → lv_has ls 4 [(1, .int (nI j)), (0, .ref (ad 0))] → W p l e ({ frames := 3, cells := 0, slots := 0, locals := 69 } : Room) s m ([.ref (ad 0)] : List Value).toArray below meth c H locs 0 0 (MQ below (zQv G (zMP G ad Y n g (zIt (zOwS g) n (zIt (zRm n g) n τ))) A) ([.ref (ad 0)] : List Value).toArray s 0 0 A) (F0 m 116 ls []) := by
          intro f2
          induction f2 with
          | zero => intro j H locs ls h1 h2; exact absurd h2 (by omega)
          | succ f2 ih2 =>
            intro j H locs ls hk2 hf2 hM hS hl
            generalize hF_τj : zIt (zOwS g) j (zIt (zRm n g) n τ) = τj at hM hl 
            refine lv_iload_n hx hb dX5_report_116 rfl (lv_at hl 0 rfl) ?_
            refine lv_aload_n hx hb dX5_report_117 rfl (lv_at hl 1 rfl) ?_
            refine z_getM (v := .ref (ad 1)) hx hb hts hown in_X5_report_X5 hK hM 1 (by decide) rfl (hts _ (List.mem_of_getElem? (i := 1) (by decide +kernel))) rfl dX5_report_118 ?_
            refine lv_iconst (v := 0) hx hb dX5_report_121 (by decide) ?_
            refine z_ldM (w := nI n) hx hb hK hM 1 rfl 0 (by decide) (by decide) (by decide) rfl dX5_report_122 ?_
            refine lv_icmp_ge (tgt := 171) hx hb dX5_report_123 (by decide) (fun c_3 => ?_) (fun c_4 => ?_)
            · skip
              have c_3 := (z_leI (a := n) (b := j) (by omega) (by omega)).mp c_3
              have hkn2 : j = n := by omega
              rw [hkn2] at hF_τj
              subst hF_τj
              exact z_vret hx hb hr hlk hK hS (hM.cast rfl rfl rfl (by first | with_reducible rfl | (simp only [c_1, c_3, eq_self, ne_eq, not_true_eq_false, not_false_eq_true, and_true, true_and, and_self, and_false, false_and, true_or, or_true, false_or, or_false, reduceIte]; done) | (simp [c_1, c_3]; done) | rfl | (simp_all []; done))) dX5_report_171
            · skip
              have c_4 := (not_congr (z_leI (a := n) (b := j) (by omega) (by omega))).mp c_4
              refine lv_aload_n hx hb dX5_report_126 rfl (lv_at hl 1 rfl) ?_
              refine lv_iload_n hx hb dX5_report_127 rfl (lv_at hl 0 rfl) ?_
              refine z_vi (As := [.int (nI j)]) (rest := []) (P2 := zMP G ad Y n g τj) (r := zBi (τj 7 j = nI j)) S (c_X5_isHead l G A ad Y n g hA hn12  τj j (by omega)) (cwV 1 hts gX5_report_X5_isHead rfl rfl rfl (by decide +kernel) ⟨Nat.le_of_ble_eq_true rfl, Nat.le_of_ble_eq_true rfl⟩) (z_recM hK hM) hM hK hS (fun _ _ h => h) (fun _ h => h) hl.1 rfl rfl (Nat.le_of_ble_eq_true rfl) dX5_report_128 ⟨Nat.le_refl _, Nat.le_refl _⟩ (fun H locs hM hS _ => ?_)
              refine lv_if_eq (tgt := 165) hx hb dX5_report_131 (by decide) (fun c_5 => ?_) (fun c_6 => ?_)
              · skip
                have c_5 := zBi_0.mp c_5
                refine lv_iinc (v := nI (j + 1)) (lv' := [(1, .int (nI (j + 1))), (0, .ref (ad 0))]) hx hb dX5_report_165 hl (k := 0) rfl (nI_1 _) (by decide) rfl (fun ls hl => ?_)
                refine lv_goto (tgt := 116) hx hb dX5_report_168 (by decide) ?_
                have e_7 : zIt (zOwS g) (j + 1) (zIt (zRm n g) n τ) = τj := by
                  rw [zIt_s, hF_τj]
                  first | with_reducible rfl | (simp only [zOwS, zPay, zPd, zSt_ap, c_1, c_4, c_5, eq_self, ne_eq, not_true_eq_false, not_false_eq_true, and_true, true_and, and_self, and_false, false_and, true_or, or_true, false_or, or_false, reduceIte]; done) | (simp [zOwS, zPay, zPd, zSt_ap, c_1, c_4, c_5]; done) | rfl | (simp_all [zOwS, zPay, zPd, zSt_ap]; done)
                refine ih2 (j + 1) _ _ _ (by omega) (by omega) ?_ hS ?_
                · first | exact hM | (rw [e_7]; exact hM)
                · first | exact lv_sub hl [0, 1] rfl | (rw [e_7]; exact lv_sub hl [0, 1] rfl)
              · skip
                have c_6 := zBi_n0.mp c_6
                refine lv_aload_n hx hb dX5_report_134 rfl (lv_at hl 1 rfl) ?_
                refine lv_iload_n hx hb dX5_report_135 rfl (lv_at hl 0 rfl) ?_
                refine z_vi (As := [.int (nI j)]) (rest := []) (P2 := zMP G ad Y n g τj) (r := zBi (τj 3 j = 1)) S (c_X5_lives l G A ad Y n g hA hn12  τj j (by omega)) (cwV 1 hts gX5_report_X5_lives rfl rfl rfl (by decide +kernel) ⟨Nat.le_of_ble_eq_true rfl, Nat.le_of_ble_eq_true rfl⟩) (z_recM hK hM) hM hK hS (fun _ _ h => h) (fun _ h => h) hl.1 rfl rfl (Nat.le_of_ble_eq_true rfl) dX5_report_136 ⟨Nat.le_refl _, Nat.le_refl _⟩ (fun H locs hM hS _ => ?_)
                refine lv_if_eq (tgt := 165) hx hb dX5_report_139 (by decide) (fun c_8 => ?_) (fun c_9 => ?_)
                · skip
                  have c_8 := zBi_0.mp c_8
                  refine lv_iinc (v := nI (j + 1)) (lv' := [(1, .int (nI (j + 1))), (0, .ref (ad 0))]) hx hb dX5_report_165 hl (k := 0) rfl (nI_1 _) (by decide) rfl (fun ls hl => ?_)
                  refine lv_goto (tgt := 116) hx hb dX5_report_168 (by decide) ?_
                  have e_10 : zIt (zOwS g) (j + 1) (zIt (zRm n g) n τ) = τj := by
                    rw [zIt_s, hF_τj]
                    first | with_reducible rfl | (simp only [zOwS, zPay, zPd, zSt_ap, c_1, c_4, c_6, c_8, eq_self, ne_eq, not_true_eq_false, not_false_eq_true, and_true, true_and, and_self, and_false, false_and, true_or, or_true, false_or, or_false, reduceIte]; done) | (simp [zOwS, zPay, zPd, zSt_ap, c_1, c_4, c_6, c_8]; done) | rfl | (simp_all [zOwS, zPay, zPd, zSt_ap]; done)
                  refine ih2 (j + 1) _ _ _ (by omega) (by omega) ?_ hS ?_
                  · first | exact hM | (rw [e_10]; exact hM)
                  · first | exact lv_sub hl [0, 1] rfl | (rw [e_10]; exact lv_sub hl [0, 1] rfl)
                · skip
                  have c_9 := zBi_n0.mp c_9
                  refine lv_aload_n hx hb dX5_report_142 rfl (lv_at hl 1 rfl) ?_
                  refine lv_iload_n hx hb dX5_report_143 rfl (lv_at hl 0 rfl) ?_
                  refine lv_aload_n hx hb dX5_report_144 rfl (lv_at hl 1 rfl) ?_
                  refine lv_iconst (v := 3) hx hb dX5_report_145 (by decide) ?_
                  refine z_vi (As := [.int 3]) (rest := [.int (nI j), .ref (ad 0)]) (P2 := zMP G ad Y n g τj) (r := g 6) S (c_X5_setting l G A ad Y n g hA hn12  τj 3 (by omega)) (cwV 1 hts gX5_report_X5_setting rfl rfl rfl (by decide +kernel) ⟨Nat.le_of_ble_eq_true rfl, Nat.le_of_ble_eq_true rfl⟩) (z_recM hK hM) hM hK hS (fun _ _ h => h) (fun _ h => h) hl.1 rfl rfl (Nat.le_of_ble_eq_true rfl) dX5_report_146 ⟨Nat.le_refl _, Nat.le_refl _⟩ (fun H locs hM hS _ => ?_)
                  refine z_vi (As := [.int (nI j), .int (g 6)]) (rest := []) (P2 := zMP G ad Y n g (zPay τj j (g 6))) (r := zBi (¬ τj 2 j < (g 6))) S (c_X5_pays l G A ad Y n g hA hn12  τj j (by omega) (g 6)) (cwV 2 hts gX5_report_X5_pays rfl rfl rfl (by decide +kernel) ⟨Nat.le_of_ble_eq_true rfl, Nat.le_of_ble_eq_true rfl⟩) (z_recM hK hM) hM hK hS (fun _ _ h => h) (fun _ h => h) hl.1 rfl rfl (Nat.le_of_ble_eq_true rfl) dX5_report_149 ⟨Nat.le_refl _, Nat.le_refl _⟩ (fun H locs hM hS _ => ?_)
                  refine lv_if_eq (tgt := 165) hx hb dX5_report_152 (by decide) (fun c_11 => ?_) (fun c_12 => ?_)
                  · skip
                    have c_11 := zBi_0.mp c_11
                    have c_11 := Decidable.of_not_not c_11
                    have hM := hM.cast rfl rfl rfl (zPay_n c_11)
                    refine lv_iinc (v := nI (j + 1)) (lv' := [(1, .int (nI (j + 1))), (0, .ref (ad 0))]) hx hb dX5_report_165 hl (k := 0) rfl (nI_1 _) (by decide) rfl (fun ls hl => ?_)
                    refine lv_goto (tgt := 116) hx hb dX5_report_168 (by decide) ?_
                    have e_13 : zIt (zOwS g) (j + 1) (zIt (zRm n g) n τ) = zDie τj j := by
                      rw [zIt_s, hF_τj]
                      first | with_reducible rfl | (simp only [zOwS, zPay, zPd, zSt_ap, c_1, c_4, c_6, c_9, c_11, eq_self, ne_eq, not_true_eq_false, not_false_eq_true, and_true, true_and, and_self, and_false, false_and, true_or, or_true, false_or, or_false, reduceIte]; done) | (simp [zOwS, zPay, zPd, zSt_ap, c_1, c_4, c_6, c_9, c_11]; done) | rfl | (simp_all [zOwS, zPay, zPd, zSt_ap]; done)
                    refine ih2 (j + 1) _ _ _ (by omega) (by omega) ?_ hS ?_
                    · first | exact hM | (rw [e_13]; exact hM)
                    · first | exact lv_sub hl [0, 1] rfl | (rw [e_13]; exact lv_sub hl [0, 1] rfl)
                  · skip
                    have c_12 := zBi_n0.mp c_12
                    have hM := hM.cast rfl rfl rfl (zPay_y c_12)
                    refine lv_aload_n hx hb dX5_report_155 rfl (lv_at hl 1 rfl) ?_
                    refine z_getM (v := .ref (ad 7)) hx hb hts hown in_X5_report_X5 hK hM 8 (by decide) rfl (hts _ (List.mem_of_getElem? (i := 2) (by decide +kernel))) rfl dX5_report_156 ?_
                    refine lv_iload_n hx hb dX5_report_159 rfl (lv_at hl 0 rfl) ?_
                    refine lv_dup2_11 hx hb dX5_report_160 rfl rfl ?_
                    refine z_ldM (w := (zPd τj j (g 6)) 9 j) hx hb hK hM 7 rfl j rfl (by omega) (by decide) rfl dX5_report_161 ?_
                    refine lv_iconst (v := 1) hx hb dX5_report_162 (by decide) ?_
                    refine lv_iadd hx hb dX5_report_163 ?_
                    refine z_stM (w := ((zPd τj j (g 6)) 9 j) + 1) hx hb hK hA hS hM 7 rfl j rfl (by omega) (by decide) (zMP G ad Y n g (zSt (zPd τj j (g 6)) 9 j (((zPd τj j (g 6)) 9 j) + 1))) (z_mw G ad Y n g (zPd τj j (g 6)) j (((zPd τj j (g 6)) 9 j) + 1)) dX5_report_164 (fun H locs hM hS => ?_)
                    refine lv_iinc (v := nI (j + 1)) (lv' := [(1, .int (nI (j + 1))), (0, .ref (ad 0))]) hx hb dX5_report_165 hl (k := 0) rfl (nI_1 _) (by decide) rfl (fun ls hl => ?_)
                    refine lv_goto (tgt := 116) hx hb dX5_report_168 (by decide) ?_
                    have e_14 : zIt (zOwS g) (j + 1) (zIt (zRm n g) n τ) = zSt (zPd τj j (g 6)) 9 j (((zPd τj j (g 6)) 9 j) + 1) := by
                      rw [zIt_s, hF_τj]
                      first | with_reducible rfl | (simp only [zOwS, zPay, zPd, zSt_ap, c_1, c_4, c_6, c_9, c_12, eq_self, ne_eq, not_true_eq_false, not_false_eq_true, and_true, true_and, and_self, and_false, false_and, true_or, or_true, false_or, or_false, reduceIte]; done) | (simp [zOwS, zPay, zPd, zSt_ap, c_1, c_4, c_6, c_9, c_12]; done) | rfl | (simp_all [zOwS, zPay, zPd, zSt_ap]; done)
                    refine ih2 (j + 1) _ _ _ (by omega) (by omega) ?_ hS ?_
                    · first | exact hM | (rw [e_14]; exact hM)
                    · first | exact lv_sub hl [0, 1] rfl | (rw [e_14]; exact lv_sub hl [0, 1] rfl)
        exact loop2 (n + 1) 0 _ _ _ (by omega) (by omega) hM hS (lv_sub hl [0, 1] rfl)
      · skip
        have c_2 := (not_congr (z_leI (a := n) (b := h) (by omega) (by omega))).mp c_2
        refine lv_iconst (v := 0) hx hb dX5_report_12 (by decide) ?_
        refine lv_istore_n (lv' := [(2, .int 0), (1, .int (nI h)), (0, .ref (ad 0))]) hx hb dX5_report_13 rfl hl (by decide) rfl (fun ls hl => ?_)
        have loop3 : ∀ (f3 k : Nat) (H : Heap) (locs : List Loc) (ls : Array Slot), k ≤ n → n < k + f3 → zMP G ad Y n g (zIt (zRqS g h) k τh) H → va_S A s.heap H locs → lv_has ls 4 [(2, .int (nI k)), (1, .int (nI h)), (0, .ref (ad 0))] → W p l e ({ frames := 3, cells := 0, slots := 0, locals := 69 } : Room) s m ([.ref (ad 0)] : List Value).toArray below meth c H locs 0 0 (MQ below (zQv G (zMP G ad Y n g (zIt (zOwS g) n (zIt (zRm n g) n τ))) A) ([.ref (ad 0)] : List Value).toArray s 0 0 A) (F0 m 14 ls []) := by
          intro f3
          induction f3 with
          | zero => intro k H locs ls h1 h2; exact absurd h2 (by omega)
          | succ f3 ih3 =>
            intro k H locs ls hk3 hf3 hM hS hl
            generalize hF_τk : zIt (zRqS g h) k τh = τk at hM hl 
            refine lv_iload_n hx hb dX5_report_14 rfl (lv_at hl 0 rfl) ?_
            refine lv_aload_n hx hb dX5_report_15 rfl (lv_at hl 2 rfl) ?_
            refine z_getM (v := .ref (ad 1)) hx hb hts hown in_X5_report_X5 hK hM 1 (by decide) rfl (hts _ (List.mem_of_getElem? (i := 1) (by decide +kernel))) rfl dX5_report_16 ?_
            refine lv_iconst (v := 0) hx hb dX5_report_19 (by decide) ?_
            refine z_ldM (w := nI n) hx hb hK hM 1 rfl 0 (by decide) (by decide) (by decide) rfl dX5_report_20 ?_
            refine lv_icmp_ge (tgt := 108) hx hb dX5_report_21 (by decide) (fun c_15 => ?_) (fun c_16 => ?_)
            · skip
              have c_15 := (z_leI (a := n) (b := k) (by omega) (by omega)).mp c_15
              have hkn3 : k = n := by omega
              rw [hkn3] at hF_τk
              subst hF_τk
              refine lv_iinc (v := nI (h + 1)) (lv' := [(1, .int (nI (h + 1))), (2, .int (nI k)), (0, .ref (ad 0))]) hx hb dX5_report_108 hl (k := 1) rfl (nI_1 _) (by decide) rfl (fun ls hl => ?_)
              refine lv_goto (tgt := 2) hx hb dX5_report_111 (by decide) ?_
              have e_17 : zIt (zRm n g) (h + 1) τ = (zIt (zRqS g h) n τh) := by
                rw [zIt_s, hF_τh]
                first | with_reducible rfl | (simp only [zRm, c_2, c_15, eq_self, ne_eq, not_true_eq_false, not_false_eq_true, and_true, true_and, and_self, and_false, false_and, true_or, or_true, false_or, or_false, reduceIte]; done) | (simp [zRm, c_2, c_15]; done) | rfl | (simp_all [zRm]; done)
              refine ih1 (h + 1) _ _ _ (by omega) (by omega) ?_ hS ?_
              · first | exact hM | (rw [e_17]; exact hM)
              · first | exact lv_sub hl [0, 2] rfl | (rw [e_17]; exact lv_sub hl [0, 2] rfl)
            · skip
              have c_16 := (not_congr (z_leI (a := n) (b := k) (by omega) (by omega))).mp c_16
              refine lv_aload_n hx hb dX5_report_24 rfl (lv_at hl 2 rfl) ?_
              refine lv_iload_n hx hb dX5_report_25 rfl (lv_at hl 1 rfl) ?_
              refine z_vi (As := [.int (nI h)]) (rest := []) (P2 := zMP G ad Y n g τk) (r := zBi (τk 7 h = nI h)) S (c_X5_isHead l G A ad Y n g hA hn12  τk h (by omega)) (cwV 1 hts gX5_report_X5_isHead rfl rfl rfl (by decide +kernel) ⟨Nat.le_of_ble_eq_true rfl, Nat.le_of_ble_eq_true rfl⟩) (z_recM hK hM) hM hK hS (fun _ _ h => h) (fun _ h => h) hl.1 rfl rfl (Nat.le_of_ble_eq_true rfl) dX5_report_26 ⟨Nat.le_refl _, Nat.le_refl _⟩ (fun H locs hM hS _ => ?_)
              refine lv_if_eq (tgt := 108) hx hb dX5_report_29 (by decide) (fun c_18 => ?_) (fun c_19 => ?_)
              · skip
                have c_18 := zBi_0.mp c_18
                have hst := zRq_stop (k := k) (by rw [hF_τk]; exact c_18) (n - k)
                rw [show k + (n - k) = n by omega, hF_τk] at hst
                rw [← hst] at hM
                refine lv_iinc (v := nI (h + 1)) (lv' := [(1, .int (nI (h + 1))), (2, .int (nI k)), (0, .ref (ad 0))]) hx hb dX5_report_108 hl (k := 1) rfl (nI_1 _) (by decide) rfl (fun ls hl => ?_)
                refine lv_goto (tgt := 2) hx hb dX5_report_111 (by decide) ?_
                have e_20 : zIt (zRm n g) (h + 1) τ = zIt (zRqS g h) n τh := by
                  rw [zIt_s, hF_τh]
                  first | with_reducible rfl | (simp only [zRm, c_2, c_16, c_18, eq_self, ne_eq, not_true_eq_false, not_false_eq_true, and_true, true_and, and_self, and_false, false_and, true_or, or_true, false_or, or_false, reduceIte]; done) | (simp [zRm, c_2, c_16, c_18]; done) | rfl | (simp_all [zRm]; done)
                refine ih1 (h + 1) _ _ _ (by omega) (by omega) ?_ hS ?_
                · first | exact hM | (rw [e_20]; exact hM)
                · first | exact lv_sub hl [0, 2] rfl | (rw [e_20]; exact lv_sub hl [0, 2] rfl)
              · skip
                have c_19 := zBi_n0.mp c_19
                refine lv_iload_n hx hb dX5_report_32 rfl (lv_at hl 0 rfl) ?_
                refine lv_iload_n hx hb dX5_report_33 rfl (lv_at hl 1 rfl) ?_
                refine lv_icmp_eq (tgt := 78) hx hb dX5_report_34 (by decide) (fun c_21 => ?_) (fun c_22 => ?_)
                · skip
                  have c_21 := (z_eqI (a := k) (b := h) (by omega) (by omega)).mp c_21
                  refine lv_iconst (v := 0) hx hb dX5_report_78 (by decide) ?_
                  refine lv_istore_n (lv' := [(3, .int 0), (2, .int (nI k)), (1, .int (nI h)), (0, .ref (ad 0))]) hx hb dX5_report_79 rfl hl (by decide) rfl (fun ls hl => ?_)
                  refine lv_iload_n hx hb dX5_report_80 rfl (lv_at hl 0 rfl) ?_
                  refine lv_if_eq (tgt := 102) hx hb dX5_report_81 (by decide) (fun _ => ?_) (fun q => absurd (by decide) q)
                  refine lv_iinc (v := nI (k + 1)) (lv' := [(2, .int (nI (k + 1))), (3, .int 0), (1, .int (nI h)), (0, .ref (ad 0))]) hx hb dX5_report_102 hl (k := 1) rfl (nI_1 _) (by decide) rfl (fun ls hl => ?_)
                  refine lv_goto (tgt := 14) hx hb dX5_report_105 (by decide) ?_
                  have e_23 : zIt (zRqS g h) (k + 1) τh = τk := by
                    rw [zIt_s, hF_τk]
                    first | with_reducible rfl | (simp only [zRqS, zRpS, zSd, c_2, c_16, c_19, c_21, eq_self, ne_eq, not_true_eq_false, not_false_eq_true, and_true, true_and, and_self, and_false, false_and, true_or, or_true, false_or, or_false, reduceIte]; done) | (simp [zRqS, zRpS, zSd, c_2, c_16, c_19, c_21]; done) | rfl | (simp_all [zRqS, zRpS, zSd]; done)
                  refine ih3 (k + 1) _ _ _ (by omega) (by omega) ?_ hS ?_
                  · first | exact hM | (rw [e_23]; exact hM)
                  · first | exact lv_sub hl [0, 2, 3] rfl | (rw [e_23]; exact lv_sub hl [0, 2, 3] rfl)
                · skip
                  have c_22 := (not_congr (z_eqI (a := k) (b := h) (by omega) (by omega))).mp c_22
                  refine lv_aload_n hx hb dX5_report_37 rfl (lv_at hl 2 rfl) ?_
                  refine lv_iload_n hx hb dX5_report_38 rfl (lv_at hl 0 rfl) ?_
                  refine lv_bipush (v := 7) hx hb dX5_report_39 (by decide) ?_
                  refine z_vi (As := [.int (nI k), .int 7]) (rest := []) (P2 := zMP G ad Y n g τk) (r := τk 7 k) S (c_X5_of l G A ad Y n g hA hn12  τk k 7 (by omega) (by omega)) (cwV 2 hts gX5_report_X5_of rfl rfl rfl (by decide +kernel) ⟨Nat.le_of_ble_eq_true rfl, Nat.le_of_ble_eq_true rfl⟩) (z_recM hK hM) hM hK hS (fun _ _ h => h) (fun _ h => h) hl.1 rfl rfl (Nat.le_of_ble_eq_true rfl) dX5_report_41 ⟨Nat.le_refl _, Nat.le_refl _⟩ (fun H locs hM hS _ => ?_)
                  refine lv_iload_n hx hb dX5_report_44 rfl (lv_at hl 1 rfl) ?_
                  refine lv_icmp_ne (tgt := 78) hx hb dX5_report_45 (by decide) (fun c_24 => ?_) (fun c_25 => ?_)
                  · skip
                    refine lv_iconst (v := 0) hx hb dX5_report_78 (by decide) ?_
                    refine lv_istore_n (lv' := [(3, .int 0), (2, .int (nI k)), (1, .int (nI h)), (0, .ref (ad 0))]) hx hb dX5_report_79 rfl hl (by decide) rfl (fun ls hl => ?_)
                    refine lv_iload_n hx hb dX5_report_80 rfl (lv_at hl 0 rfl) ?_
                    refine lv_if_eq (tgt := 102) hx hb dX5_report_81 (by decide) (fun _ => ?_) (fun q => absurd (by decide) q)
                    refine lv_iinc (v := nI (k + 1)) (lv' := [(2, .int (nI (k + 1))), (3, .int 0), (1, .int (nI h)), (0, .ref (ad 0))]) hx hb dX5_report_102 hl (k := 1) rfl (nI_1 _) (by decide) rfl (fun ls hl => ?_)
                    refine lv_goto (tgt := 14) hx hb dX5_report_105 (by decide) ?_
                    have e_26 : zIt (zRqS g h) (k + 1) τh = τk := by
                      rw [zIt_s, hF_τk]
                      first | with_reducible rfl | (simp only [zRqS, zRpS, zSd, c_2, c_16, c_19, c_22, c_24, eq_self, ne_eq, not_true_eq_false, not_false_eq_true, and_true, true_and, and_self, and_false, false_and, true_or, or_true, false_or, or_false, reduceIte]; done) | (simp [zRqS, zRpS, zSd, c_2, c_16, c_19, c_22, c_24]; done) | rfl | (simp_all [zRqS, zRpS, zSd]; done)
                    refine ih3 (k + 1) _ _ _ (by omega) (by omega) ?_ hS ?_
                    · first | exact hM | (rw [e_26]; exact hM)
                    · first | exact lv_sub hl [0, 2, 3] rfl | (rw [e_26]; exact lv_sub hl [0, 2, 3] rfl)
                  · skip
                    refine lv_aload_n hx hb dX5_report_48 rfl (lv_at hl 2 rfl) ?_
                    refine lv_iload_n hx hb dX5_report_49 rfl (lv_at hl 0 rfl) ?_
                    refine z_vi (As := [.int (nI k)]) (rest := []) (P2 := zMP G ad Y n g τk) (r := zBi (τk 3 k = 1)) S (c_X5_lives l G A ad Y n g hA hn12  τk k (by omega)) (cwV 1 hts gX5_report_X5_lives rfl rfl rfl (by decide +kernel) ⟨Nat.le_of_ble_eq_true rfl, Nat.le_of_ble_eq_true rfl⟩) (z_recM hK hM) hM hK hS (fun _ _ h => h) (fun _ h => h) hl.1 rfl rfl (Nat.le_of_ble_eq_true rfl) dX5_report_50 ⟨Nat.le_refl _, Nat.le_refl _⟩ (fun H locs hM hS _ => ?_)
                    refine lv_if_eq (tgt := 78) hx hb dX5_report_53 (by decide) (fun c_27 => ?_) (fun c_28 => ?_)
                    · skip
                      have c_27 := zBi_0.mp c_27
                      refine lv_iconst (v := 0) hx hb dX5_report_78 (by decide) ?_
                      refine lv_istore_n (lv' := [(3, .int 0), (2, .int (nI k)), (1, .int (nI h)), (0, .ref (ad 0))]) hx hb dX5_report_79 rfl hl (by decide) rfl (fun ls hl => ?_)
                      refine lv_iload_n hx hb dX5_report_80 rfl (lv_at hl 0 rfl) ?_
                      refine lv_if_eq (tgt := 102) hx hb dX5_report_81 (by decide) (fun _ => ?_) (fun q => absurd (by decide) q)
                      refine lv_iinc (v := nI (k + 1)) (lv' := [(2, .int (nI (k + 1))), (3, .int 0), (1, .int (nI h)), (0, .ref (ad 0))]) hx hb dX5_report_102 hl (k := 1) rfl (nI_1 _) (by decide) rfl (fun ls hl => ?_)
                      refine lv_goto (tgt := 14) hx hb dX5_report_105 (by decide) ?_
                      have e_29 : zIt (zRqS g h) (k + 1) τh = τk := by
                        rw [zIt_s, hF_τk]
                        first | with_reducible rfl | (simp only [zRqS, zRpS, zSd, c_2, c_16, c_19, c_22, c_25, c_27, eq_self, ne_eq, not_true_eq_false, not_false_eq_true, and_true, true_and, and_self, and_false, false_and, true_or, or_true, false_or, or_false, reduceIte]; done) | (simp [zRqS, zRpS, zSd, c_2, c_16, c_19, c_22, c_25, c_27]; done) | rfl | (simp_all [zRqS, zRpS, zSd]; done)
                      refine ih3 (k + 1) _ _ _ (by omega) (by omega) ?_ hS ?_
                      · first | exact hM | (rw [e_29]; exact hM)
                      · first | exact lv_sub hl [0, 2, 3] rfl | (rw [e_29]; exact lv_sub hl [0, 2, 3] rfl)
                    · skip
                      have c_28 := zBi_n0.mp c_28
                      refine lv_aload_n hx hb dX5_report_56 rfl (lv_at hl 2 rfl) ?_
                      refine lv_iload_n hx hb dX5_report_57 rfl (lv_at hl 0 rfl) ?_
                      refine lv_aload_n hx hb dX5_report_58 rfl (lv_at hl 2 rfl) ?_
                      refine lv_aload_n hx hb dX5_report_59 rfl (lv_at hl 2 rfl) ?_
                      refine lv_iload_n hx hb dX5_report_60 rfl (lv_at hl 0 rfl) ?_
                      refine lv_iload_n hx hb dX5_report_61 rfl (lv_at hl 1 rfl) ?_
                      refine z_vi (As := [.int (nI k), .int (nI h)]) (rest := [.ref (ad 0), .int (nI k), .ref (ad 0)]) (P2 := zMP G ad Y n g τk) (r := zDs τk k h) S (c_X5_distance l G A ad Y n g hA hn12  τk k h (by omega) (by omega)) (cwV 2 hts gX5_report_X5_distance rfl rfl rfl (by decide +kernel) ⟨Nat.le_of_ble_eq_true rfl, Nat.le_of_ble_eq_true rfl⟩) (z_recM hK hM) hM hK hS (fun _ _ h => h) (fun _ h => h) hl.1 rfl rfl (Nat.le_of_ble_eq_true rfl) dX5_report_62 ⟨Nat.le_refl _, Nat.le_refl _⟩ (fun H locs hM hS _ => ?_)
                      refine z_vi (As := [.int (zDs τk k h)]) (rest := [.int (nI k), .ref (ad 0)]) (P2 := zMP G ad Y n g τk) (r := zCo g (zDs τk k h)) S (c_X5_sendingCost l G A ad Y n g hA hn12 hd5 τk (zDs τk k h)) (cwV 1 hts gX5_report_X5_sendingCost rfl rfl rfl (by decide +kernel) ⟨Nat.le_of_ble_eq_true rfl, Nat.le_of_ble_eq_true rfl⟩) (z_recM hK hM) hM hK hS (fun _ _ h => h) (fun _ h => h) hl.1 rfl rfl (Nat.le_of_ble_eq_true rfl) dX5_report_65 ⟨Nat.le_refl _, Nat.le_refl _⟩ (fun H locs hM hS _ => ?_)
                      refine z_vi (As := [.int (nI k), .int (zCo g (zDs τk k h))]) (rest := []) (P2 := zMP G ad Y n g (zPay τk k (zCo g (zDs τk k h)))) (r := zBi (¬ τk 2 k < (zCo g (zDs τk k h)))) S (c_X5_pays l G A ad Y n g hA hn12  τk k (by omega) (zCo g (zDs τk k h))) (cwV 2 hts gX5_report_X5_pays rfl rfl rfl (by decide +kernel) ⟨Nat.le_of_ble_eq_true rfl, Nat.le_of_ble_eq_true rfl⟩) (z_recM hK hM) hM hK hS (fun _ _ h => h) (fun _ h => h) hl.1 rfl rfl (Nat.le_of_ble_eq_true rfl) dX5_report_68 ⟨Nat.le_refl _, Nat.le_refl _⟩ (fun H locs hM hS _ => ?_)
                      refine lv_if_eq (tgt := 78) hx hb dX5_report_71 (by decide) (fun c_30 => ?_) (fun c_31 => ?_)
                      · skip
                        have c_30 := zBi_0.mp c_30
                        have c_30 := Decidable.of_not_not c_30
                        have hM := hM.cast rfl rfl rfl (zPay_n c_30)
                        refine lv_iconst (v := 0) hx hb dX5_report_78 (by decide) ?_
                        refine lv_istore_n (lv' := [(3, .int 0), (2, .int (nI k)), (1, .int (nI h)), (0, .ref (ad 0))]) hx hb dX5_report_79 rfl hl (by decide) rfl (fun ls hl => ?_)
                        refine lv_iload_n hx hb dX5_report_80 rfl (lv_at hl 0 rfl) ?_
                        refine lv_if_eq (tgt := 102) hx hb dX5_report_81 (by decide) (fun _ => ?_) (fun q => absurd (by decide) q)
                        refine lv_iinc (v := nI (k + 1)) (lv' := [(2, .int (nI (k + 1))), (3, .int 0), (1, .int (nI h)), (0, .ref (ad 0))]) hx hb dX5_report_102 hl (k := 1) rfl (nI_1 _) (by decide) rfl (fun ls hl => ?_)
                        refine lv_goto (tgt := 14) hx hb dX5_report_105 (by decide) ?_
                        have e_32 : zIt (zRqS g h) (k + 1) τh = zDie τk k := by
                          rw [zIt_s, hF_τk]
                          first | with_reducible rfl | (simp only [zRqS, zRpS, zSd, c_2, c_16, c_19, c_22, c_25, c_28, c_30, eq_self, ne_eq, not_true_eq_false, not_false_eq_true, and_true, true_and, and_self, and_false, false_and, true_or, or_true, false_or, or_false, reduceIte]; done) | (simp [zRqS, zRpS, zSd, c_2, c_16, c_19, c_22, c_25, c_28, c_30]; done) | rfl | (simp_all [zRqS, zRpS, zSd]; done)
                        refine ih3 (k + 1) _ _ _ (by omega) (by omega) ?_ hS ?_
                        · first | exact hM | (rw [e_32]; exact hM)
                        · first | exact lv_sub hl [0, 2, 3] rfl | (rw [e_32]; exact lv_sub hl [0, 2, 3] rfl)
                      · skip
                        have c_31 := zBi_n0.mp c_31
                        have hM := hM.cast rfl rfl rfl (zPay_y c_31)
                        refine lv_iconst (v := 1) hx hb dX5_report_74 (by decide) ?_
                        refine lv_goto (tgt := 79) hx hb dX5_report_75 (by decide) ?_
                        refine lv_istore_n (lv' := [(3, .int 1), (2, .int (nI k)), (1, .int (nI h)), (0, .ref (ad 0))]) hx hb dX5_report_79 rfl hl (by decide) rfl (fun ls hl => ?_)
                        refine lv_iload_n hx hb dX5_report_80 rfl (lv_at hl 0 rfl) ?_
                        refine lv_if_eq (tgt := 102) hx hb dX5_report_81 (by decide) (fun q => absurd q (by decide)) (fun _ => ?_)
                        refine lv_aload_n hx hb dX5_report_84 rfl (lv_at hl 3 rfl) ?_
                        refine lv_iload_n hx hb dX5_report_85 rfl (lv_at hl 2 rfl) ?_
                        refine z_vi (As := [.int (nI h)]) (rest := []) (P2 := zMP G ad Y n g ((zTk g (zPd τk k (zCo g (zDs τk k h))) h).1)) (r := (zTk g (zPd τk k (zCo g (zDs τk k h))) h).2) S (c_X5_takesIn l G A ad Y n g hA hn12  (zPd τk k (zCo g (zDs τk k h))) h (by omega)) (cwV 1 hts gX5_report_X5_takesIn rfl rfl rfl (by decide +kernel) ⟨Nat.le_of_ble_eq_true rfl, Nat.le_of_ble_eq_true rfl⟩) (z_recM hK hM) hM hK hS (fun _ _ h => h) (fun _ h => h) hl.1 rfl rfl (Nat.le_of_ble_eq_true rfl) dX5_report_86 ⟨Nat.le_refl _, Nat.le_refl _⟩ (fun H locs hM hS _ => ?_)
                        refine lv_if_eq (tgt := 102) hx hb dX5_report_89 (by decide) (fun c_33 => ?_) (fun c_34 => ?_)
                        · skip
                          refine lv_iinc (v := nI (k + 1)) (lv' := [(2, .int (nI (k + 1))), (3, .int 1), (1, .int (nI h)), (0, .ref (ad 0))]) hx hb dX5_report_102 hl (k := 1) rfl (nI_1 _) (by decide) rfl (fun ls hl => ?_)
                          refine lv_goto (tgt := 14) hx hb dX5_report_105 (by decide) ?_
                          have e_35 : zIt (zRqS g h) (k + 1) τh = (zTk g (zPd τk k (zCo g (zDs τk k h))) h).1 := by
                            rw [zIt_s, hF_τk]
                            first | with_reducible rfl | (simp only [zRqS, zRpS, zSd, c_2, c_16, c_19, c_22, c_25, c_28, c_31, c_33, eq_self, ne_eq, not_true_eq_false, not_false_eq_true, and_true, true_and, and_self, and_false, false_and, true_or, or_true, false_or, or_false, reduceIte]; done) | (simp [zRqS, zRpS, zSd, c_2, c_16, c_19, c_22, c_25, c_28, c_31, c_33]; done) | rfl | (simp_all [zRqS, zRpS, zSd]; done)
                          refine ih3 (k + 1) _ _ _ (by omega) (by omega) ?_ hS ?_
                          · first | exact hM | (rw [e_35]; exact hM)
                          · first | exact lv_sub hl [0, 2, 3] rfl | (rw [e_35]; exact lv_sub hl [0, 2, 3] rfl)
                        · skip
                          refine lv_aload_n hx hb dX5_report_92 rfl (lv_at hl 3 rfl) ?_
                          refine z_getM (v := .ref (ad 7)) hx hb hts hown in_X5_report_X5 hK hM 8 (by decide) rfl (hts _ (List.mem_of_getElem? (i := 2) (by decide +kernel))) rfl dX5_report_93 ?_
                          refine lv_iload_n hx hb dX5_report_96 rfl (lv_at hl 2 rfl) ?_
                          refine lv_dup2_11 hx hb dX5_report_97 rfl rfl ?_
                          refine z_ldM (w := ((zTk g (zPd τk k (zCo g (zDs τk k h))) h).1) 9 h) hx hb hK hM 7 rfl h rfl (by omega) (by decide) rfl dX5_report_98 ?_
                          refine lv_iconst (v := 1) hx hb dX5_report_99 (by decide) ?_
                          refine lv_iadd hx hb dX5_report_100 ?_
                          refine z_stM (w := (((zTk g (zPd τk k (zCo g (zDs τk k h))) h).1) 9 h) + 1) hx hb hK hA hS hM 7 rfl h rfl (by omega) (by decide) (zMP G ad Y n g (zSt ((zTk g (zPd τk k (zCo g (zDs τk k h))) h).1) 9 h ((((zTk g (zPd τk k (zCo g (zDs τk k h))) h).1) 9 h) + 1))) (z_mw G ad Y n g ((zTk g (zPd τk k (zCo g (zDs τk k h))) h).1) h ((((zTk g (zPd τk k (zCo g (zDs τk k h))) h).1) 9 h) + 1)) dX5_report_101 (fun H locs hM hS => ?_)
                          refine lv_iinc (v := nI (k + 1)) (lv' := [(2, .int (nI (k + 1))), (3, .int 1), (1, .int (nI h)), (0, .ref (ad 0))]) hx hb dX5_report_102 hl (k := 1) rfl (nI_1 _) (by decide) rfl (fun ls hl => ?_)
                          refine lv_goto (tgt := 14) hx hb dX5_report_105 (by decide) ?_
                          have e_36 : zIt (zRqS g h) (k + 1) τh = zSt ((zTk g (zPd τk k (zCo g (zDs τk k h))) h).1) 9 h ((((zTk g (zPd τk k (zCo g (zDs τk k h))) h).1) 9 h) + 1) := by
                            rw [zIt_s, hF_τk]
                            first | with_reducible rfl | (simp only [zRqS, zRpS, zSd, c_2, c_16, c_19, c_22, c_25, c_28, c_31, c_34, eq_self, ne_eq, not_true_eq_false, not_false_eq_true, and_true, true_and, and_self, and_false, false_and, true_or, or_true, false_or, or_false, reduceIte]; done) | (simp [zRqS, zRpS, zSd, c_2, c_16, c_19, c_22, c_25, c_28, c_31, c_34]; done) | rfl | (simp_all [zRqS, zRpS, zSd]; done)
                          refine ih3 (k + 1) _ _ _ (by omega) (by omega) ?_ hS ?_
                          · first | exact hM | (rw [e_36]; exact hM)
                          · first | exact lv_sub hl [0, 2, 3] rfl | (rw [e_36]; exact lv_sub hl [0, 2, 3] rfl)
        exact loop3 (n + 1) 0 _ _ _ (by omega) (by omega) hM hS (lv_sub hl [0, 1, 2] rfl)
  exact loop1 (n + 1) 0 _ _ _ (by omega) (by omega) hM hS (lv_sub hl [0, 1] rfl)

theorem in_X5_deliver_X5 : ∀ w ∈ wsX50, w ∈ wsX5_deliver := by decide +kernel
set_option maxHeartbeats 4000000 in
set_option maxRecDepth 100000 in
theorem c_X5_deliver (l : Launch) (G : zG) (A : Nat → Prop) (ad : Nat → Nat) (Y : zY) (n : Nat) (g : Nat → Int32) (hA : zAm G ad A) (hn12 : n ≤ 12) (hd5 : 0 < g 5) (τ : zT) (k : Nat) (hk : k < 12) : zMv l G A yX5_deliver wsX5_deliver 3 68 [.ref (ad 0), .int (nI k)] (zMP G ad Y n g τ) (zMP G ad Y n g (zDmS g k τ)) := by
  refine z_met (cc := cX5_deliver) (maxL := 2) (ret := none) (by decide) rfl (Nat.le_of_ble_eq_true rfl) ?_
  intro p e s m below meth c ls S hr hlk hnm hM hK hl
  have S : CallFix p m c cX5_deliver 2 s _ wsX5_deliver RX5 := S
  obtain ⟨hx, hb, hml, hown, hts⟩ := id S
  have hS : va_S A s.heap s.heap [] := va_S.rf
  have hl : lv_has ls 2 [(0, .ref (ad 0)), (1, .int (nI k))] := hl
  refine lv_aload_n hx hb dX5_deliver_0 rfl (lv_at hl 0 rfl) ?_
  refine lv_iload_n hx hb dX5_deliver_1 rfl (lv_at hl 1 rfl) ?_
  refine z_vi (As := [.int (nI k)]) (rest := []) (P2 := zMP G ad Y n g τ) (r := zBi (τ 3 k = 1)) S (c_X5_lives l G A ad Y n g hA hn12  τ k (by omega)) (cwV 1 hts gX5_deliver_X5_lives rfl rfl rfl (by decide +kernel) ⟨Nat.le_of_ble_eq_true rfl, Nat.le_of_ble_eq_true rfl⟩) (z_recM hK hM) hM hK hS (fun _ _ h => h) (fun _ h => h) hl.1 rfl rfl (Nat.le_of_ble_eq_true rfl) dX5_deliver_2 ⟨Nat.le_refl _, Nat.le_refl _⟩ (fun H locs hM hS _ => ?_)
  refine lv_if_eq (tgt := 41) hx hb dX5_deliver_5 (by decide) (fun c_1 => ?_) (fun c_2 => ?_)
  · skip
    have c_1 := zBi_0.mp c_1
    exact z_vret hx hb hr hlk hK hS (hM.cast rfl rfl rfl (by first | with_reducible rfl | (simp only [zDmS, zSb, zPay, zPd, zSt_ap, c_1, eq_self, ne_eq, not_true_eq_false, not_false_eq_true, and_true, true_and, and_self, and_false, false_and, true_or, or_true, false_or, or_false, reduceIte]; done) | (simp [zDmS, zSb, zPay, zPd, zSt_ap, c_1]; done) | rfl | (simp_all [zDmS, zSb, zPay, zPd, zSt_ap]; done))) dX5_deliver_41
  · skip
    have c_2 := zBi_n0.mp c_2
    refine lv_aload_n hx hb dX5_deliver_8 rfl (lv_at hl 0 rfl) ?_
    refine lv_iload_n hx hb dX5_deliver_9 rfl (lv_at hl 1 rfl) ?_
    refine lv_aload_n hx hb dX5_deliver_10 rfl (lv_at hl 0 rfl) ?_
    refine lv_aload_n hx hb dX5_deliver_11 rfl (lv_at hl 0 rfl) ?_
    refine lv_iload_n hx hb dX5_deliver_12 rfl (lv_at hl 1 rfl) ?_
    refine z_vi (As := [.int (nI k)]) (rest := [.ref (ad 0), .int (nI k), .ref (ad 0)]) (P2 := zMP G ad Y n g τ) (r := zDb g τ k) S (c_X5_distanceToBase l G A ad Y n g hA hn12  τ k (by omega)) (cwV 1 hts gX5_deliver_X5_distanceToBase rfl rfl rfl (by decide +kernel) ⟨Nat.le_of_ble_eq_true rfl, Nat.le_of_ble_eq_true rfl⟩) (z_recM hK hM) hM hK hS (fun _ _ h => h) (fun _ h => h) hl.1 rfl rfl (Nat.le_of_ble_eq_true rfl) dX5_deliver_13 ⟨Nat.le_refl _, Nat.le_refl _⟩ (fun H locs hM hS _ => ?_)
    refine z_vi (As := [.int (zDb g τ k)]) (rest := [.int (nI k), .ref (ad 0)]) (P2 := zMP G ad Y n g τ) (r := zCo g (zDb g τ k)) S (c_X5_sendingCost l G A ad Y n g hA hn12 hd5 τ (zDb g τ k)) (cwV 1 hts gX5_deliver_X5_sendingCost rfl rfl rfl (by decide +kernel) ⟨Nat.le_of_ble_eq_true rfl, Nat.le_of_ble_eq_true rfl⟩) (z_recM hK hM) hM hK hS (fun _ _ h => h) (fun _ h => h) hl.1 rfl rfl (Nat.le_of_ble_eq_true rfl) dX5_deliver_16 ⟨Nat.le_refl _, Nat.le_refl _⟩ (fun H locs hM hS _ => ?_)
    refine z_vi (As := [.int (nI k), .int (zCo g (zDb g τ k))]) (rest := []) (P2 := zMP G ad Y n g (zPay τ k (zCo g (zDb g τ k)))) (r := zBi (¬ τ 2 k < (zCo g (zDb g τ k)))) S (c_X5_pays l G A ad Y n g hA hn12  τ k (by omega) (zCo g (zDb g τ k))) (cwV 2 hts gX5_deliver_X5_pays rfl rfl rfl (by decide +kernel) ⟨Nat.le_of_ble_eq_true rfl, Nat.le_of_ble_eq_true rfl⟩) (z_recM hK hM) hM hK hS (fun _ _ h => h) (fun _ h => h) hl.1 rfl rfl (Nat.le_of_ble_eq_true rfl) dX5_deliver_19 ⟨Nat.le_refl _, Nat.le_refl _⟩ (fun H locs hM hS _ => ?_)
    refine lv_if_eq (tgt := 41) hx hb dX5_deliver_22 (by decide) (fun c_3 => ?_) (fun c_4 => ?_)
    · skip
      have c_3 := zBi_0.mp c_3
      have c_3 := Decidable.of_not_not c_3
      have hM := hM.cast rfl rfl rfl (zPay_n c_3)
      exact z_vret hx hb hr hlk hK hS (hM.cast rfl rfl rfl (by first | with_reducible rfl | (simp only [zDmS, zSb, zPay, zPd, zSt_ap, c_2, c_3, eq_self, ne_eq, not_true_eq_false, not_false_eq_true, and_true, true_and, and_self, and_false, false_and, true_or, or_true, false_or, or_false, reduceIte]; done) | (simp [zDmS, zSb, zPay, zPd, zSt_ap, c_2, c_3]; done) | rfl | (simp_all [zDmS, zSb, zPay, zPd, zSt_ap]; done))) dX5_deliver_41
    · skip
      have c_4 := zBi_n0.mp c_4
      have hM := hM.cast rfl rfl rfl (zPay_y c_4)
      refine lv_aload_n hx hb dX5_deliver_25 rfl (lv_at hl 0 rfl) ?_
      refine z_getM (v := .ref (ad 1)) hx hb hts hown in_X5_deliver_X5 hK hM 1 (by decide) rfl (hts _ (List.mem_of_getElem? (i := 1) (by decide +kernel))) rfl dX5_deliver_26 ?_
      refine lv_bipush (v := 12) hx hb dX5_deliver_29 (by decide) ?_
      refine lv_dup2_11 hx hb dX5_deliver_31 rfl rfl ?_
      refine z_ldM (w := (zPd τ k (zCo g (zDb g τ k))) 11 12) hx hb hK hM 1 rfl 12 (by decide) (by decide) (by decide) rfl dX5_deliver_32 ?_
      refine lv_aload_n hx hb dX5_deliver_33 rfl (lv_at hl 0 rfl) ?_
      refine z_getM (v := .ref (ad 7)) hx hb hts hown in_X5_deliver_X5 hK hM 8 (by decide) rfl (hts _ (List.mem_of_getElem? (i := 2) (by decide +kernel))) rfl dX5_deliver_34 ?_
      refine lv_iload_n hx hb dX5_deliver_37 rfl (lv_at hl 1 rfl) ?_
      refine z_ldM (w := (zPd τ k (zCo g (zDb g τ k))) 9 k) hx hb hK hM 7 rfl k rfl (by omega) (by decide) rfl dX5_deliver_38 ?_
      refine lv_iadd hx hb dX5_deliver_39 ?_
      refine z_stM (w := ((zPd τ k (zCo g (zDb g τ k))) 11 12) + ((zPd τ k (zCo g (zDb g τ k))) 9 k)) hx hb hK hA hS hM 1 rfl 12 (by decide) (by decide) (by decide) (zMP G ad Y n g (zSt (zPd τ k (zCo g (zDb g τ k))) 11 12 (((zPd τ k (zCo g (zDb g τ k))) 11 12) + ((zPd τ k (zCo g (zDb g τ k))) 9 k)))) (z_mg G ad Y n g (zPd τ k (zCo g (zDb g τ k))) (by decide) (by decide) (((zPd τ k (zCo g (zDb g τ k))) 11 12) + ((zPd τ k (zCo g (zDb g τ k))) 9 k))) dX5_deliver_40 (fun H locs hM hS => ?_)
      exact z_vret hx hb hr hlk hK hS (hM.cast rfl rfl rfl (by first | with_reducible rfl | (simp only [zDmS, zSb, zPay, zPd, zSt_ap, c_2, c_4, eq_self, ne_eq, not_true_eq_false, not_false_eq_true, and_true, true_and, and_self, and_false, false_and, true_or, or_true, false_or, or_false, reduceIte]; done) | (simp [zDmS, zSb, zPay, zPd, zSt_ap, c_2, c_4]; done) | rfl | (simp_all [zDmS, zSb, zPay, zPd, zSt_ap]; done))) dX5_deliver_41

theorem in_X5_relay_X5 : ∀ w ∈ wsX50, w ∈ wsX5_relay := by decide +kernel
set_option maxHeartbeats 4000000 in
set_option maxRecDepth 100000 in
theorem c_X5_relay (l : Launch) (G : zG) (A : Nat → Prop) (ad : Nat → Nat) (Y : zY) (n : Nat) (g : Nat → Int32) (hA : zAm G ad A) (hn12 : n ≤ 12) (τ : zT) : zMi l G A yX5_relay wsX5_relay 3 68 [.ref (ad 0)] (zMP G ad Y n g τ) (zOi (zNe n τ (g 1) (g 2))) (zMP G ad Y n g τ) := by
  refine z_met (cc := cX5_relay) (maxL := 3) (ret := (some .int)) (by decide) rfl (Nat.le_of_ble_eq_true rfl) ?_
  intro p e s m below meth c ls S hr hlk hnm hM hK hl
  have S : CallFix p m c cX5_relay 3 s _ wsX5_relay RX5 := S
  obtain ⟨hx, hb, hml, hown, hts⟩ := id S
  have hS : va_S A s.heap s.heap [] := va_S.rf
  have hl : lv_has ls 3 [(0, .ref (ad 0))] := hl
  refine lv_bipush (v := -9) hx hb dX5_relay_0 (by decide) ?_
  refine lv_istore_n (lv' := [(1, .int (-9)), (0, .ref (ad 0))]) hx hb dX5_relay_2 rfl hl (by decide) rfl (fun ls hl => ?_)
  refine lv_iconst (v := 0) hx hb dX5_relay_3 (by decide) ?_
  refine lv_istore_n (lv' := [(2, .int 0), (1, .int (-9)), (0, .ref (ad 0))]) hx hb dX5_relay_4 rfl hl (by decide) rfl (fun ls hl => ?_)
  have loop1 : ∀ (f1 h : Nat) (H : Heap) (locs : List Loc) (ls : Array Slot), h ≤ n → n < h + f1 → zMP G ad Y n g τ H → va_S A s.heap H locs → lv_has ls 3 [(2, .int (nI h)), (1, .int (zOi (zIt (zNeS τ (g 1) (g 2)) h none))), (0, .ref (ad 0))] → W p l e ({ frames := 3, cells := 0, slots := 0, locals := 68 } : Room) s m ([.ref (ad 0)] : List Value).toArray below meth c H locs 0 0 (MQ below (zQi G (zOi (zNe n τ (g 1) (g 2))) (zMP G ad Y n g τ) A) ([.ref (ad 0)] : List Value).toArray s 0 0 A) (F0 m 5 ls []) := by
    intro f1
    induction f1 with
    | zero => intro h H locs ls h1 h2; exact absurd h2 (by omega)
    | succ f1 ih1 =>
      intro h H locs ls hk1 hf1 hM hS hl
      generalize hF_o : zIt (zNeS τ (g 1) (g 2)) h none = o at hM hl 
      rcases o with _ | b
      · skip
        have hl : lv_has ls 3 [(2, .int (nI h)), (1, .int (-9)), (0, .ref (ad 0))] := hl
        refine lv_iload_n hx hb dX5_relay_5 rfl (lv_at hl 0 rfl) ?_
        refine lv_aload_n hx hb dX5_relay_6 rfl (lv_at hl 2 rfl) ?_
        refine z_getM (v := .ref (ad 1)) hx hb hts hown in_X5_relay_X5 hK hM 1 (by decide) rfl (hts _ (List.mem_of_getElem? (i := 1) (by decide +kernel))) rfl dX5_relay_7 ?_
        refine lv_iconst (v := 0) hx hb dX5_relay_10 (by decide) ?_
        refine z_ldM (w := nI n) hx hb hK hM 1 rfl 0 (by decide) (by decide) (by decide) rfl dX5_relay_11 ?_
        refine lv_icmp_ge (tgt := 58) hx hb dX5_relay_12 (by decide) (fun c_1 => ?_) (fun c_2 => ?_)
        · skip
          have c_1 := (z_leI (a := n) (b := h) (by omega) (by omega)).mp c_1
          have hkn1 : h = n := by omega
          rw [hkn1] at hF_o
          refine lv_iload_n hx hb dX5_relay_58 rfl (lv_at hl 1 rfl) ?_
          refine z_top (x2 := zOi (zNe n τ (g 1) (g 2))) (by first | with_reducible rfl | (simp only [zNe, zOi, c_1, hF_o, eq_self, ne_eq, not_true_eq_false, not_false_eq_true, and_true, true_and, and_self, and_false, false_and, true_or, or_true, false_or, or_false, reduceIte]; done) | (simp [zNe, zOi, c_1, hF_o]; done) | rfl | (simp_all [zNe, zOi]; done)) ?_
          exact z_iret hx hb hr hlk hK hS (hM) dX5_relay_59
        · skip
          have c_2 := (not_congr (z_leI (a := n) (b := h) (by omega) (by omega))).mp c_2
          refine lv_aload_n hx hb dX5_relay_15 rfl (lv_at hl 2 rfl) ?_
          refine lv_iload_n hx hb dX5_relay_16 rfl (lv_at hl 0 rfl) ?_
          refine z_vi (As := [.int (nI h)]) (rest := []) (P2 := zMP G ad Y n g τ) (r := zBi (τ 7 h = nI h)) S (c_X5_isHead l G A ad Y n g hA hn12  τ h (by omega)) (cwV 1 hts gX5_relay_X5_isHead rfl rfl rfl (by decide +kernel) ⟨Nat.le_of_ble_eq_true rfl, Nat.le_of_ble_eq_true rfl⟩) (z_recM hK hM) hM hK hS (fun _ _ h => h) (fun _ h => h) hl.1 rfl rfl (Nat.le_of_ble_eq_true rfl) dX5_relay_17 ⟨Nat.le_refl _, Nat.le_refl _⟩ (fun H locs hM hS _ => ?_)
          refine lv_if_eq (tgt := 52) hx hb dX5_relay_20 (by decide) (fun c_3 => ?_) (fun c_4 => ?_)
          · skip
            have c_3 := zBi_0.mp c_3
            refine lv_iinc (v := nI (h + 1)) (lv' := [(2, .int (nI (h + 1))), (1, .int (-9)), (0, .ref (ad 0))]) hx hb dX5_relay_52 hl (k := 0) rfl (nI_1 _) (by decide) rfl (fun ls hl => ?_)
            refine lv_goto (tgt := 5) hx hb dX5_relay_55 (by decide) ?_
            have e_5 : zIt (zNeS τ (g 1) (g 2)) (h + 1) none = none := by
              rw [zIt_s, hF_o]
              first | with_reducible rfl | (simp only [zNeS, zOd, zDb_f, c_2, c_3, eq_self, ne_eq, not_true_eq_false, not_false_eq_true, and_true, true_and, and_self, and_false, false_and, true_or, or_true, false_or, or_false, reduceIte]; done) | (simp [zNeS, zOd, zDb_f, c_2, c_3]; done) | rfl | (simp_all [zNeS, zOd, zDb_f]; done)
            refine ih1 (h + 1) _ _ _ (by omega) (by omega) ?_ hS ?_
            · first | exact hM | (rw [e_5]; exact hM)
            · first | exact lv_sub hl [0, 1, 2] rfl | (rw [e_5]; exact lv_sub hl [0, 1, 2] rfl)
          · skip
            have c_4 := zBi_n0.mp c_4
            refine lv_aload_n hx hb dX5_relay_23 rfl (lv_at hl 2 rfl) ?_
            refine lv_iload_n hx hb dX5_relay_24 rfl (lv_at hl 0 rfl) ?_
            refine z_vi (As := [.int (nI h)]) (rest := []) (P2 := zMP G ad Y n g τ) (r := zBi (τ 3 h = 1)) S (c_X5_lives l G A ad Y n g hA hn12  τ h (by omega)) (cwV 1 hts gX5_relay_X5_lives rfl rfl rfl (by decide +kernel) ⟨Nat.le_of_ble_eq_true rfl, Nat.le_of_ble_eq_true rfl⟩) (z_recM hK hM) hM hK hS (fun _ _ h => h) (fun _ h => h) hl.1 rfl rfl (Nat.le_of_ble_eq_true rfl) dX5_relay_25 ⟨Nat.le_refl _, Nat.le_refl _⟩ (fun H locs hM hS _ => ?_)
            refine lv_if_eq (tgt := 52) hx hb dX5_relay_28 (by decide) (fun c_6 => ?_) (fun c_7 => ?_)
            · skip
              have c_6 := zBi_0.mp c_6
              refine lv_iinc (v := nI (h + 1)) (lv' := [(2, .int (nI (h + 1))), (1, .int (-9)), (0, .ref (ad 0))]) hx hb dX5_relay_52 hl (k := 0) rfl (nI_1 _) (by decide) rfl (fun ls hl => ?_)
              refine lv_goto (tgt := 5) hx hb dX5_relay_55 (by decide) ?_
              have e_8 : zIt (zNeS τ (g 1) (g 2)) (h + 1) none = none := by
                rw [zIt_s, hF_o]
                first | with_reducible rfl | (simp only [zNeS, zOd, zDb_f, c_2, c_4, c_6, eq_self, ne_eq, not_true_eq_false, not_false_eq_true, and_true, true_and, and_self, and_false, false_and, true_or, or_true, false_or, or_false, reduceIte]; done) | (simp [zNeS, zOd, zDb_f, c_2, c_4, c_6]; done) | rfl | (simp_all [zNeS, zOd, zDb_f]; done)
              refine ih1 (h + 1) _ _ _ (by omega) (by omega) ?_ hS ?_
              · first | exact hM | (rw [e_8]; exact hM)
              · first | exact lv_sub hl [0, 1, 2] rfl | (rw [e_8]; exact lv_sub hl [0, 1, 2] rfl)
            · skip
              have c_7 := zBi_n0.mp c_7
              refine lv_iload_n hx hb dX5_relay_31 rfl (lv_at hl 1 rfl) ?_
              refine lv_bipush (v := -9) hx hb dX5_relay_32 (by decide) ?_
              refine lv_icmp_eq (tgt := 50) hx hb dX5_relay_34 (by decide) (fun _ => ?_) (fun q => absurd (by decide) q)
              refine lv_iload_n hx hb dX5_relay_50 rfl (lv_at hl 0 rfl) ?_
              refine lv_istore_n (lv' := [(1, .int (nI h)), (2, .int (nI h)), (0, .ref (ad 0))]) hx hb dX5_relay_51 rfl hl (by decide) rfl (fun ls hl => ?_)
              refine lv_iinc (v := nI (h + 1)) (lv' := [(2, .int (nI (h + 1))), (1, .int (nI h)), (0, .ref (ad 0))]) hx hb dX5_relay_52 hl (k := 1) rfl (nI_1 _) (by decide) rfl (fun ls hl => ?_)
              refine lv_goto (tgt := 5) hx hb dX5_relay_55 (by decide) ?_
              have e_9 : zIt (zNeS τ (g 1) (g 2)) (h + 1) none = some h := by
                rw [zIt_s, hF_o]
                first | with_reducible rfl | (simp only [zNeS, zOd, zDb_f, c_2, c_4, c_7, eq_self, ne_eq, not_true_eq_false, not_false_eq_true, and_true, true_and, and_self, and_false, false_and, true_or, or_true, false_or, or_false, reduceIte]; done) | (simp [zNeS, zOd, zDb_f, c_2, c_4, c_7]; done) | rfl | (simp_all [zNeS, zOd, zDb_f]; done)
              refine ih1 (h + 1) _ _ _ (by omega) (by omega) ?_ hS ?_
              · first | exact hM | (rw [e_9]; exact hM)
              · first | exact lv_sub hl [0, 1, 2] rfl | (rw [e_9]; exact lv_sub hl [0, 1, 2] rfl)
      · skip
        have hb1 : b < h := zNe_lt n τ (g 1) (g 2) h b hF_o
        have hb2 : b < n := by omega
        have hl : lv_has ls 3 [(2, .int (nI h)), (1, .int (nI b)), (0, .ref (ad 0))] := hl
        refine lv_iload_n hx hb dX5_relay_5 rfl (lv_at hl 0 rfl) ?_
        refine lv_aload_n hx hb dX5_relay_6 rfl (lv_at hl 2 rfl) ?_
        refine z_getM (v := .ref (ad 1)) hx hb hts hown in_X5_relay_X5 hK hM 1 (by decide) rfl (hts _ (List.mem_of_getElem? (i := 1) (by decide +kernel))) rfl dX5_relay_7 ?_
        refine lv_iconst (v := 0) hx hb dX5_relay_10 (by decide) ?_
        refine z_ldM (w := nI n) hx hb hK hM 1 rfl 0 (by decide) (by decide) (by decide) rfl dX5_relay_11 ?_
        refine lv_icmp_ge (tgt := 58) hx hb dX5_relay_12 (by decide) (fun c_10 => ?_) (fun c_11 => ?_)
        · skip
          have c_10 := (z_leI (a := n) (b := h) (by omega) (by omega)).mp c_10
          have hkn1 : h = n := by omega
          rw [hkn1] at hF_o
          refine lv_iload_n hx hb dX5_relay_58 rfl (lv_at hl 1 rfl) ?_
          refine z_top (x2 := zOi (zNe n τ (g 1) (g 2))) (by first | with_reducible rfl | (simp only [zNe, zOi, c_10, hF_o, eq_self, ne_eq, not_true_eq_false, not_false_eq_true, and_true, true_and, and_self, and_false, false_and, true_or, or_true, false_or, or_false, reduceIte]; done) | (simp [zNe, zOi, c_10, hF_o]; done) | rfl | (simp_all [zNe, zOi]; done)) ?_
          exact z_iret hx hb hr hlk hK hS (hM) dX5_relay_59
        · skip
          have c_11 := (not_congr (z_leI (a := n) (b := h) (by omega) (by omega))).mp c_11
          refine lv_aload_n hx hb dX5_relay_15 rfl (lv_at hl 2 rfl) ?_
          refine lv_iload_n hx hb dX5_relay_16 rfl (lv_at hl 0 rfl) ?_
          refine z_vi (As := [.int (nI h)]) (rest := []) (P2 := zMP G ad Y n g τ) (r := zBi (τ 7 h = nI h)) S (c_X5_isHead l G A ad Y n g hA hn12  τ h (by omega)) (cwV 1 hts gX5_relay_X5_isHead rfl rfl rfl (by decide +kernel) ⟨Nat.le_of_ble_eq_true rfl, Nat.le_of_ble_eq_true rfl⟩) (z_recM hK hM) hM hK hS (fun _ _ h => h) (fun _ h => h) hl.1 rfl rfl (Nat.le_of_ble_eq_true rfl) dX5_relay_17 ⟨Nat.le_refl _, Nat.le_refl _⟩ (fun H locs hM hS _ => ?_)
          refine lv_if_eq (tgt := 52) hx hb dX5_relay_20 (by decide) (fun c_12 => ?_) (fun c_13 => ?_)
          · skip
            have c_12 := zBi_0.mp c_12
            refine lv_iinc (v := nI (h + 1)) (lv' := [(2, .int (nI (h + 1))), (1, .int (nI b)), (0, .ref (ad 0))]) hx hb dX5_relay_52 hl (k := 0) rfl (nI_1 _) (by decide) rfl (fun ls hl => ?_)
            refine lv_goto (tgt := 5) hx hb dX5_relay_55 (by decide) ?_
            have e_14 : zIt (zNeS τ (g 1) (g 2)) (h + 1) none = some b := by
              rw [zIt_s, hF_o]
              first | with_reducible rfl | (simp only [zNeS, zOd, zDb_f, c_11, c_12, eq_self, ne_eq, not_true_eq_false, not_false_eq_true, and_true, true_and, and_self, and_false, false_and, true_or, or_true, false_or, or_false, reduceIte]; done) | (simp [zNeS, zOd, zDb_f, c_11, c_12]; done) | rfl | (simp_all [zNeS, zOd, zDb_f]; done)
            refine ih1 (h + 1) _ _ _ (by omega) (by omega) ?_ hS ?_
            · first | exact hM | (rw [e_14]; exact hM)
            · first | exact lv_sub hl [0, 1, 2] rfl | (rw [e_14]; exact lv_sub hl [0, 1, 2] rfl)
          · skip
            have c_13 := zBi_n0.mp c_13
            refine lv_aload_n hx hb dX5_relay_23 rfl (lv_at hl 2 rfl) ?_
            refine lv_iload_n hx hb dX5_relay_24 rfl (lv_at hl 0 rfl) ?_
            refine z_vi (As := [.int (nI h)]) (rest := []) (P2 := zMP G ad Y n g τ) (r := zBi (τ 3 h = 1)) S (c_X5_lives l G A ad Y n g hA hn12  τ h (by omega)) (cwV 1 hts gX5_relay_X5_lives rfl rfl rfl (by decide +kernel) ⟨Nat.le_of_ble_eq_true rfl, Nat.le_of_ble_eq_true rfl⟩) (z_recM hK hM) hM hK hS (fun _ _ h => h) (fun _ h => h) hl.1 rfl rfl (Nat.le_of_ble_eq_true rfl) dX5_relay_25 ⟨Nat.le_refl _, Nat.le_refl _⟩ (fun H locs hM hS _ => ?_)
            refine lv_if_eq (tgt := 52) hx hb dX5_relay_28 (by decide) (fun c_15 => ?_) (fun c_16 => ?_)
            · skip
              have c_15 := zBi_0.mp c_15
              refine lv_iinc (v := nI (h + 1)) (lv' := [(2, .int (nI (h + 1))), (1, .int (nI b)), (0, .ref (ad 0))]) hx hb dX5_relay_52 hl (k := 0) rfl (nI_1 _) (by decide) rfl (fun ls hl => ?_)
              refine lv_goto (tgt := 5) hx hb dX5_relay_55 (by decide) ?_
              have e_17 : zIt (zNeS τ (g 1) (g 2)) (h + 1) none = some b := by
                rw [zIt_s, hF_o]
                first | with_reducible rfl | (simp only [zNeS, zOd, zDb_f, c_11, c_13, c_15, eq_self, ne_eq, not_true_eq_false, not_false_eq_true, and_true, true_and, and_self, and_false, false_and, true_or, or_true, false_or, or_false, reduceIte]; done) | (simp [zNeS, zOd, zDb_f, c_11, c_13, c_15]; done) | rfl | (simp_all [zNeS, zOd, zDb_f]; done)
              refine ih1 (h + 1) _ _ _ (by omega) (by omega) ?_ hS ?_
              · first | exact hM | (rw [e_17]; exact hM)
              · first | exact lv_sub hl [0, 1, 2] rfl | (rw [e_17]; exact lv_sub hl [0, 1, 2] rfl)
            · skip
              have c_16 := zBi_n0.mp c_16
              refine lv_iload_n hx hb dX5_relay_31 rfl (lv_at hl 1 rfl) ?_
              refine lv_bipush (v := -9) hx hb dX5_relay_32 (by decide) ?_
              refine lv_icmp_eq (tgt := 50) hx hb dX5_relay_34 (by decide) (fun q => absurd q (zOi_lt (by omega))) (fun _ => ?_)
              refine lv_aload_n hx hb dX5_relay_37 rfl (lv_at hl 2 rfl) ?_
              refine lv_iload_n hx hb dX5_relay_38 rfl (lv_at hl 0 rfl) ?_
              refine z_vi (As := [.int (nI h)]) (rest := []) (P2 := zMP G ad Y n g τ) (r := zDb g τ h) S (c_X5_distanceToBase l G A ad Y n g hA hn12  τ h (by omega)) (cwV 1 hts gX5_relay_X5_distanceToBase rfl rfl rfl (by decide +kernel) ⟨Nat.le_of_ble_eq_true rfl, Nat.le_of_ble_eq_true rfl⟩) (z_recM hK hM) hM hK hS (fun _ _ h => h) (fun _ h => h) hl.1 rfl rfl (Nat.le_of_ble_eq_true rfl) dX5_relay_39 ⟨Nat.le_refl _, Nat.le_refl _⟩ (fun H locs hM hS _ => ?_)
              refine lv_aload_n hx hb dX5_relay_42 rfl (lv_at hl 2 rfl) ?_
              refine lv_iload_n hx hb dX5_relay_43 rfl (lv_at hl 1 rfl) ?_
              refine z_vi (As := [.int (nI b)]) (rest := [.int (zDb g τ h)]) (P2 := zMP G ad Y n g τ) (r := zDb g τ b) S (c_X5_distanceToBase l G A ad Y n g hA hn12  τ b (by omega)) (cwV 1 hts gX5_relay_X5_distanceToBase rfl rfl rfl (by decide +kernel) ⟨Nat.le_of_ble_eq_true rfl, Nat.le_of_ble_eq_true rfl⟩) (z_recM hK hM) hM hK hS (fun _ _ h => h) (fun _ h => h) hl.1 rfl rfl (Nat.le_of_ble_eq_true rfl) dX5_relay_44 ⟨Nat.le_refl _, Nat.le_refl _⟩ (fun H locs hM hS _ => ?_)
              refine lv_icmp_ge (tgt := 52) hx hb dX5_relay_47 (by decide) (fun c_18 => ?_) (fun c_19 => ?_)
              · skip
                have c_18 := Int32.not_lt.mpr c_18
                refine lv_iinc (v := nI (h + 1)) (lv' := [(2, .int (nI (h + 1))), (1, .int (nI b)), (0, .ref (ad 0))]) hx hb dX5_relay_52 hl (k := 0) rfl (nI_1 _) (by decide) rfl (fun ls hl => ?_)
                refine lv_goto (tgt := 5) hx hb dX5_relay_55 (by decide) ?_
                have e_20 : zIt (zNeS τ (g 1) (g 2)) (h + 1) none = some b := by
                  rw [zIt_s, hF_o]
                  first | with_reducible rfl | (simp only [zNeS, zOd, zDb_f, c_11, c_13, c_16, c_18, eq_self, ne_eq, not_true_eq_false, not_false_eq_true, and_true, true_and, and_self, and_false, false_and, true_or, or_true, false_or, or_false, reduceIte]; done) | (simp [zNeS, zOd, zDb_f, c_11, c_13, c_16, c_18]; done) | rfl | (simp_all [zNeS, zOd, zDb_f]; done)
                refine ih1 (h + 1) _ _ _ (by omega) (by omega) ?_ hS ?_
                · first | exact hM | (rw [e_20]; exact hM)
                · first | exact lv_sub hl [0, 1, 2] rfl | (rw [e_20]; exact lv_sub hl [0, 1, 2] rfl)
              · skip
                have c_19 := Int32.not_le.mp c_19
                refine lv_iload_n hx hb dX5_relay_50 rfl (lv_at hl 0 rfl) ?_
                refine lv_istore_n (lv' := [(1, .int (nI h)), (2, .int (nI h)), (0, .ref (ad 0))]) hx hb dX5_relay_51 rfl hl (by decide) rfl (fun ls hl => ?_)
                refine lv_iinc (v := nI (h + 1)) (lv' := [(2, .int (nI (h + 1))), (1, .int (nI h)), (0, .ref (ad 0))]) hx hb dX5_relay_52 hl (k := 1) rfl (nI_1 _) (by decide) rfl (fun ls hl => ?_)
                refine lv_goto (tgt := 5) hx hb dX5_relay_55 (by decide) ?_
                have e_21 : zIt (zNeS τ (g 1) (g 2)) (h + 1) none = some h := by
                  rw [zIt_s, hF_o]
                  first | with_reducible rfl | (simp only [zNeS, zOd, zDb_f, c_11, c_13, c_16, c_19, eq_self, ne_eq, not_true_eq_false, not_false_eq_true, and_true, true_and, and_self, and_false, false_and, true_or, or_true, false_or, or_false, reduceIte]; done) | (simp [zNeS, zOd, zDb_f, c_11, c_13, c_16, c_19]; done) | rfl | (simp_all [zNeS, zOd, zDb_f]; done)
                refine ih1 (h + 1) _ _ _ (by omega) (by omega) ?_ hS ?_
                · first | exact hM | (rw [e_21]; exact hM)
                · first | exact lv_sub hl [0, 1, 2] rfl | (rw [e_21]; exact lv_sub hl [0, 1, 2] rfl)
  exact loop1 (n + 1) 0 _ _ _ (by omega) (by omega) hM hS (lv_sub hl [0, 1, 2] rfl)

theorem in_X5_deliverByRelay_X5 : ∀ w ∈ wsX50, w ∈ wsX5_deliverByRelay := by decide +kernel
set_option maxHeartbeats 4000000 in
set_option maxRecDepth 100000 in
theorem c_X5_deliverByRelay (l : Launch) (G : zG) (A : Nat → Prop) (ad : Nat → Nat) (Y : zY) (n : Nat) (g : Nat → Int32) (hA : zAm G ad A) (hn12 : n ≤ 12) (hd5 : 0 < g 5) (τ : zT) : zMv l G A yX5_deliverByRelay wsX5_deliverByRelay 4 90 [.ref (ad 0)] (zMP G ad Y n g τ) (zMP G ad Y n g (zRl n g τ)) := by
  refine z_met (cc := cX5_deliverByRelay) (maxL := 4) (ret := none) (by decide) rfl (Nat.le_of_ble_eq_true rfl) ?_
  intro p e s m below meth c ls S hr hlk hnm hM hK hl
  have S : CallFix p m c cX5_deliverByRelay 4 s _ wsX5_deliverByRelay RX5 := S
  obtain ⟨hx, hb, hml, hown, hts⟩ := id S
  have hS : va_S A s.heap s.heap [] := va_S.rf
  have hl : lv_has ls 4 [(0, .ref (ad 0))] := hl
  refine lv_aload_n hx hb dX5_deliverByRelay_0 rfl (lv_at hl 0 rfl) ?_
  refine z_vi (As := []) (rest := []) (P2 := zMP G ad Y n g τ) (r := zOi (zNe n τ (g 1) (g 2))) S (c_X5_relay l G A ad Y n g hA hn12  τ ) (cwV 0 hts gX5_deliverByRelay_X5_relay rfl rfl rfl (by decide +kernel) ⟨Nat.le_of_ble_eq_true rfl, Nat.le_of_ble_eq_true rfl⟩) (z_recM hK hM) hM hK hS (fun _ _ h => h) (fun _ h => h) hl.1 rfl rfl (Nat.le_of_ble_eq_true rfl) dX5_deliverByRelay_1 ⟨Nat.le_refl _, Nat.le_refl _⟩ (fun H locs hM hS _ => ?_)
  rcases hO : zNe n τ (g 1) (g 2) with _ | b
  · skip
    refine lv_istore_n (lv' := [(1, .int (-9)), (0, .ref (ad 0))]) hx hb dX5_deliverByRelay_4 rfl hl (by decide) rfl (fun ls hl => ?_)
    refine lv_iload_n hx hb dX5_deliverByRelay_5 rfl (lv_at hl 0 rfl) ?_
    refine lv_bipush (v := -9) hx hb dX5_deliverByRelay_6 (by decide) ?_
    refine lv_icmp_ne (tgt := 12) hx hb dX5_deliverByRelay_8 (by decide) (fun q => absurd (by decide) q) (fun _ => ?_)
    exact z_vret hx hb hr hlk hK hS (hM.cast rfl rfl rfl (by first | with_reducible rfl | (simp only [zRl, zRlE, zDmS, hO, eq_self, ne_eq, not_true_eq_false, not_false_eq_true, and_true, true_and, and_self, and_false, false_and, true_or, or_true, false_or, or_false, reduceIte]; done) | (simp [zRl, zRlE, zDmS, hO]; done) | rfl | (simp_all [zRl, zRlE, zDmS]; done))) dX5_deliverByRelay_11
  · skip
    have hb2 : b < n := zNe_lt n τ (g 1) (g 2) n b hO
    refine lv_istore_n (lv' := [(1, .int (nI b)), (0, .ref (ad 0))]) hx hb dX5_deliverByRelay_4 rfl hl (by decide) rfl (fun ls hl => ?_)
    refine lv_iload_n hx hb dX5_deliverByRelay_5 rfl (lv_at hl 0 rfl) ?_
    refine lv_bipush (v := -9) hx hb dX5_deliverByRelay_6 (by decide) ?_
    refine lv_icmp_ne (tgt := 12) hx hb dX5_deliverByRelay_8 (by decide) (fun _ => ?_) (fun q => absurd q (zOi_lt (by omega))) 
    refine lv_iconst (v := 0) hx hb dX5_deliverByRelay_12 (by decide) ?_
    refine lv_istore_n (lv' := [(2, .int 0), (1, .int (nI b)), (0, .ref (ad 0))]) hx hb dX5_deliverByRelay_13 rfl hl (by decide) rfl (fun ls hl => ?_)
    have loop1 : ∀ (f1 h : Nat) (H : Heap) (locs : List Loc) (ls : Array Slot), h ≤ n → n < h + f1 → zMP G ad Y n g (zIt (zRlS g b) h τ) H → va_S A s.heap H locs → lv_has ls 4 [(2, .int (nI h)), (1, .int (nI b)), (0, .ref (ad 0))] → W p l e ({ frames := 4, cells := 0, slots := 0, locals := 90 } : Room) s m ([.ref (ad 0)] : List Value).toArray below meth c H locs 0 0 (MQ below (zQv G (zMP G ad Y n g (zRl n g τ)) A) ([.ref (ad 0)] : List Value).toArray s 0 0 A) (F0 m 14 ls []) := by
      intro f1
      induction f1 with
      | zero => intro h H locs ls h1 h2; exact absurd h2 (by omega)
      | succ f1 ih1 =>
        intro h H locs ls hk1 hf1 hM hS hl
        generalize hF_τh : zIt (zRlS g b) h τ = τh at hM hl 
        refine lv_iload_n hx hb dX5_deliverByRelay_14 rfl (lv_at hl 0 rfl) ?_
        refine lv_aload_n hx hb dX5_deliverByRelay_15 rfl (lv_at hl 2 rfl) ?_
        refine z_getM (v := .ref (ad 1)) hx hb hts hown in_X5_deliverByRelay_X5 hK hM 1 (by decide) rfl (hts _ (List.mem_of_getElem? (i := 1) (by decide +kernel))) rfl dX5_deliverByRelay_16 ?_
        refine lv_iconst (v := 0) hx hb dX5_deliverByRelay_19 (by decide) ?_
        refine z_ldM (w := nI n) hx hb hK hM 1 rfl 0 (by decide) (by decide) (by decide) rfl dX5_deliverByRelay_20 ?_
        refine lv_icmp_ge (tgt := 102) hx hb dX5_deliverByRelay_21 (by decide) (fun c_1 => ?_) (fun c_2 => ?_)
        · skip
          have c_1 := (z_leI (a := n) (b := h) (by omega) (by omega)).mp c_1
          have hkn1 : h = n := by omega
          rw [hkn1] at hF_τh
          subst hF_τh
          refine lv_aload_n hx hb dX5_deliverByRelay_102 rfl (lv_at hl 2 rfl) ?_
          refine lv_iload_n hx hb dX5_deliverByRelay_103 rfl (lv_at hl 1 rfl) ?_
          refine z_vv (As := [.int (nI b)]) (rest := []) (P2 := zMP G ad Y n g (zDmS g b (zIt (zRlS g b) n τ))) S (c_X5_deliver l G A ad Y n g hA hn12 hd5 (zIt (zRlS g b) n τ) b (by omega)) (cwV 1 hts gX5_deliverByRelay_X5_deliver rfl rfl rfl (by decide +kernel) ⟨Nat.le_of_ble_eq_true rfl, Nat.le_of_ble_eq_true rfl⟩) (z_recM hK hM) hM hK hS (fun _ _ h => h) (fun _ h => h) hl.1 rfl rfl (Nat.le_of_ble_eq_true rfl) dX5_deliverByRelay_104 ⟨Nat.le_refl _, Nat.le_refl _⟩ (fun H locs hM hS _ => ?_)
          exact z_vret hx hb hr hlk hK hS (hM.cast rfl rfl rfl (by first | with_reducible rfl | (simp only [zRl, zRlE, zDmS, hO, c_1, eq_self, ne_eq, not_true_eq_false, not_false_eq_true, and_true, true_and, and_self, and_false, false_and, true_or, or_true, false_or, or_false, reduceIte]; done) | (simp [zRl, zRlE, zDmS, hO, c_1]; done) | rfl | (simp_all [zRl, zRlE, zDmS]; done))) dX5_deliverByRelay_107
        · skip
          have c_2 := (not_congr (z_leI (a := n) (b := h) (by omega) (by omega))).mp c_2
          refine lv_aload_n hx hb dX5_deliverByRelay_24 rfl (lv_at hl 2 rfl) ?_
          refine lv_iload_n hx hb dX5_deliverByRelay_25 rfl (lv_at hl 0 rfl) ?_
          refine z_vi (As := [.int (nI h)]) (rest := []) (P2 := zMP G ad Y n g τh) (r := zBi (τh 7 h = nI h)) S (c_X5_isHead l G A ad Y n g hA hn12  τh h (by omega)) (cwV 1 hts gX5_deliverByRelay_X5_isHead rfl rfl rfl (by decide +kernel) ⟨Nat.le_of_ble_eq_true rfl, Nat.le_of_ble_eq_true rfl⟩) (z_recM hK hM) hM hK hS (fun _ _ h => h) (fun _ h => h) hl.1 rfl rfl (Nat.le_of_ble_eq_true rfl) dX5_deliverByRelay_26 ⟨Nat.le_refl _, Nat.le_refl _⟩ (fun H locs hM hS _ => ?_)
          refine lv_if_eq (tgt := 67) hx hb dX5_deliverByRelay_29 (by decide) (fun c_3 => ?_) (fun c_4 => ?_)
          · skip
            have c_3 := zBi_0.mp c_3
            refine lv_iconst (v := 0) hx hb dX5_deliverByRelay_67 (by decide) ?_
            refine lv_istore_n (lv' := [(3, .int 0), (2, .int (nI h)), (1, .int (nI b)), (0, .ref (ad 0))]) hx hb dX5_deliverByRelay_68 rfl hl (by decide) rfl (fun ls hl => ?_)
            refine lv_iload_n hx hb dX5_deliverByRelay_69 rfl (lv_at hl 0 rfl) ?_
            refine lv_if_eq (tgt := 96) hx hb dX5_deliverByRelay_70 (by decide) (fun _ => ?_) (fun q => absurd (by decide) q)
            refine lv_iinc (v := nI (h + 1)) (lv' := [(2, .int (nI (h + 1))), (3, .int 0), (1, .int (nI b)), (0, .ref (ad 0))]) hx hb dX5_deliverByRelay_96 hl (k := 1) rfl (nI_1 _) (by decide) rfl (fun ls hl => ?_)
            refine lv_goto (tgt := 14) hx hb dX5_deliverByRelay_99 (by decide) ?_
            have e_5 : zIt (zRlS g b) (h + 1) τ = τh := by
              rw [zIt_s, hF_τh]
              first | with_reducible rfl | (simp only [zRlS, zSd, hO, c_2, c_3, eq_self, ne_eq, not_true_eq_false, not_false_eq_true, and_true, true_and, and_self, and_false, false_and, true_or, or_true, false_or, or_false, reduceIte]; done) | (simp [zRlS, zSd, hO, c_2, c_3]; done) | rfl | (simp_all [zRlS, zSd]; done)
            refine ih1 (h + 1) _ _ _ (by omega) (by omega) ?_ hS ?_
            · first | exact hM | (rw [e_5]; exact hM)
            · first | exact lv_sub hl [0, 2, 3] rfl | (rw [e_5]; exact lv_sub hl [0, 2, 3] rfl)
          · skip
            have c_4 := zBi_n0.mp c_4
            refine lv_iload_n hx hb dX5_deliverByRelay_32 rfl (lv_at hl 0 rfl) ?_
            refine lv_iload_n hx hb dX5_deliverByRelay_33 rfl (lv_at hl 1 rfl) ?_
            refine lv_icmp_eq (tgt := 67) hx hb dX5_deliverByRelay_34 (by decide) (fun c_6 => ?_) (fun c_7 => ?_)
            · skip
              have c_6 := (z_eqI (a := h) (b := b) (by omega) (by omega)).mp c_6
              refine lv_iconst (v := 0) hx hb dX5_deliverByRelay_67 (by decide) ?_
              refine lv_istore_n (lv' := [(3, .int 0), (2, .int (nI h)), (1, .int (nI b)), (0, .ref (ad 0))]) hx hb dX5_deliverByRelay_68 rfl hl (by decide) rfl (fun ls hl => ?_)
              refine lv_iload_n hx hb dX5_deliverByRelay_69 rfl (lv_at hl 0 rfl) ?_
              refine lv_if_eq (tgt := 96) hx hb dX5_deliverByRelay_70 (by decide) (fun _ => ?_) (fun q => absurd (by decide) q)
              refine lv_iinc (v := nI (h + 1)) (lv' := [(2, .int (nI (h + 1))), (3, .int 0), (1, .int (nI b)), (0, .ref (ad 0))]) hx hb dX5_deliverByRelay_96 hl (k := 1) rfl (nI_1 _) (by decide) rfl (fun ls hl => ?_)
              refine lv_goto (tgt := 14) hx hb dX5_deliverByRelay_99 (by decide) ?_
              have e_8 : zIt (zRlS g b) (h + 1) τ = τh := by
                rw [zIt_s, hF_τh]
                first | with_reducible rfl | (simp only [zRlS, zSd, hO, c_2, c_4, c_6, eq_self, ne_eq, not_true_eq_false, not_false_eq_true, and_true, true_and, and_self, and_false, false_and, true_or, or_true, false_or, or_false, reduceIte]; done) | (simp [zRlS, zSd, hO, c_2, c_4, c_6]; done) | rfl | (simp_all [zRlS, zSd]; done)
              refine ih1 (h + 1) _ _ _ (by omega) (by omega) ?_ hS ?_
              · first | exact hM | (rw [e_8]; exact hM)
              · first | exact lv_sub hl [0, 2, 3] rfl | (rw [e_8]; exact lv_sub hl [0, 2, 3] rfl)
            · skip
              have c_7 := (not_congr (z_eqI (a := h) (b := b) (by omega) (by omega))).mp c_7
              refine lv_aload_n hx hb dX5_deliverByRelay_37 rfl (lv_at hl 2 rfl) ?_
              refine lv_iload_n hx hb dX5_deliverByRelay_38 rfl (lv_at hl 0 rfl) ?_
              refine z_vi (As := [.int (nI h)]) (rest := []) (P2 := zMP G ad Y n g τh) (r := zBi (τh 3 h = 1)) S (c_X5_lives l G A ad Y n g hA hn12  τh h (by omega)) (cwV 1 hts gX5_deliverByRelay_X5_lives rfl rfl rfl (by decide +kernel) ⟨Nat.le_of_ble_eq_true rfl, Nat.le_of_ble_eq_true rfl⟩) (z_recM hK hM) hM hK hS (fun _ _ h => h) (fun _ h => h) hl.1 rfl rfl (Nat.le_of_ble_eq_true rfl) dX5_deliverByRelay_39 ⟨Nat.le_refl _, Nat.le_refl _⟩ (fun H locs hM hS _ => ?_)
              refine lv_if_eq (tgt := 67) hx hb dX5_deliverByRelay_42 (by decide) (fun c_9 => ?_) (fun c_10 => ?_)
              · skip
                have c_9 := zBi_0.mp c_9
                refine lv_iconst (v := 0) hx hb dX5_deliverByRelay_67 (by decide) ?_
                refine lv_istore_n (lv' := [(3, .int 0), (2, .int (nI h)), (1, .int (nI b)), (0, .ref (ad 0))]) hx hb dX5_deliverByRelay_68 rfl hl (by decide) rfl (fun ls hl => ?_)
                refine lv_iload_n hx hb dX5_deliverByRelay_69 rfl (lv_at hl 0 rfl) ?_
                refine lv_if_eq (tgt := 96) hx hb dX5_deliverByRelay_70 (by decide) (fun _ => ?_) (fun q => absurd (by decide) q)
                refine lv_iinc (v := nI (h + 1)) (lv' := [(2, .int (nI (h + 1))), (3, .int 0), (1, .int (nI b)), (0, .ref (ad 0))]) hx hb dX5_deliverByRelay_96 hl (k := 1) rfl (nI_1 _) (by decide) rfl (fun ls hl => ?_)
                refine lv_goto (tgt := 14) hx hb dX5_deliverByRelay_99 (by decide) ?_
                have e_11 : zIt (zRlS g b) (h + 1) τ = τh := by
                  rw [zIt_s, hF_τh]
                  first | with_reducible rfl | (simp only [zRlS, zSd, hO, c_2, c_4, c_7, c_9, eq_self, ne_eq, not_true_eq_false, not_false_eq_true, and_true, true_and, and_self, and_false, false_and, true_or, or_true, false_or, or_false, reduceIte]; done) | (simp [zRlS, zSd, hO, c_2, c_4, c_7, c_9]; done) | rfl | (simp_all [zRlS, zSd]; done)
                refine ih1 (h + 1) _ _ _ (by omega) (by omega) ?_ hS ?_
                · first | exact hM | (rw [e_11]; exact hM)
                · first | exact lv_sub hl [0, 2, 3] rfl | (rw [e_11]; exact lv_sub hl [0, 2, 3] rfl)
              · skip
                have c_10 := zBi_n0.mp c_10
                refine lv_aload_n hx hb dX5_deliverByRelay_45 rfl (lv_at hl 2 rfl) ?_
                refine lv_iload_n hx hb dX5_deliverByRelay_46 rfl (lv_at hl 0 rfl) ?_
                refine lv_aload_n hx hb dX5_deliverByRelay_47 rfl (lv_at hl 2 rfl) ?_
                refine lv_aload_n hx hb dX5_deliverByRelay_48 rfl (lv_at hl 2 rfl) ?_
                refine lv_iload_n hx hb dX5_deliverByRelay_49 rfl (lv_at hl 0 rfl) ?_
                refine lv_iload_n hx hb dX5_deliverByRelay_50 rfl (lv_at hl 1 rfl) ?_
                refine z_vi (As := [.int (nI h), .int (nI b)]) (rest := [.ref (ad 0), .int (nI h), .ref (ad 0)]) (P2 := zMP G ad Y n g τh) (r := zDs τh h b) S (c_X5_distance l G A ad Y n g hA hn12  τh h b (by omega) (by omega)) (cwV 2 hts gX5_deliverByRelay_X5_distance rfl rfl rfl (by decide +kernel) ⟨Nat.le_of_ble_eq_true rfl, Nat.le_of_ble_eq_true rfl⟩) (z_recM hK hM) hM hK hS (fun _ _ h => h) (fun _ h => h) hl.1 rfl rfl (Nat.le_of_ble_eq_true rfl) dX5_deliverByRelay_51 ⟨Nat.le_refl _, Nat.le_refl _⟩ (fun H locs hM hS _ => ?_)
                refine z_vi (As := [.int (zDs τh h b)]) (rest := [.int (nI h), .ref (ad 0)]) (P2 := zMP G ad Y n g τh) (r := zCo g (zDs τh h b)) S (c_X5_sendingCost l G A ad Y n g hA hn12 hd5 τh (zDs τh h b)) (cwV 1 hts gX5_deliverByRelay_X5_sendingCost rfl rfl rfl (by decide +kernel) ⟨Nat.le_of_ble_eq_true rfl, Nat.le_of_ble_eq_true rfl⟩) (z_recM hK hM) hM hK hS (fun _ _ h => h) (fun _ h => h) hl.1 rfl rfl (Nat.le_of_ble_eq_true rfl) dX5_deliverByRelay_54 ⟨Nat.le_refl _, Nat.le_refl _⟩ (fun H locs hM hS _ => ?_)
                refine z_vi (As := [.int (nI h), .int (zCo g (zDs τh h b))]) (rest := []) (P2 := zMP G ad Y n g (zPay τh h (zCo g (zDs τh h b)))) (r := zBi (¬ τh 2 h < (zCo g (zDs τh h b)))) S (c_X5_pays l G A ad Y n g hA hn12  τh h (by omega) (zCo g (zDs τh h b))) (cwV 2 hts gX5_deliverByRelay_X5_pays rfl rfl rfl (by decide +kernel) ⟨Nat.le_of_ble_eq_true rfl, Nat.le_of_ble_eq_true rfl⟩) (z_recM hK hM) hM hK hS (fun _ _ h => h) (fun _ h => h) hl.1 rfl rfl (Nat.le_of_ble_eq_true rfl) dX5_deliverByRelay_57 ⟨Nat.le_refl _, Nat.le_refl _⟩ (fun H locs hM hS _ => ?_)
                refine lv_if_eq (tgt := 67) hx hb dX5_deliverByRelay_60 (by decide) (fun c_12 => ?_) (fun c_13 => ?_)
                · skip
                  have c_12 := zBi_0.mp c_12
                  have c_12 := Decidable.of_not_not c_12
                  have hM := hM.cast rfl rfl rfl (zPay_n c_12)
                  refine lv_iconst (v := 0) hx hb dX5_deliverByRelay_67 (by decide) ?_
                  refine lv_istore_n (lv' := [(3, .int 0), (2, .int (nI h)), (1, .int (nI b)), (0, .ref (ad 0))]) hx hb dX5_deliverByRelay_68 rfl hl (by decide) rfl (fun ls hl => ?_)
                  refine lv_iload_n hx hb dX5_deliverByRelay_69 rfl (lv_at hl 0 rfl) ?_
                  refine lv_if_eq (tgt := 96) hx hb dX5_deliverByRelay_70 (by decide) (fun _ => ?_) (fun q => absurd (by decide) q)
                  refine lv_iinc (v := nI (h + 1)) (lv' := [(2, .int (nI (h + 1))), (3, .int 0), (1, .int (nI b)), (0, .ref (ad 0))]) hx hb dX5_deliverByRelay_96 hl (k := 1) rfl (nI_1 _) (by decide) rfl (fun ls hl => ?_)
                  refine lv_goto (tgt := 14) hx hb dX5_deliverByRelay_99 (by decide) ?_
                  have e_14 : zIt (zRlS g b) (h + 1) τ = zDie τh h := by
                    rw [zIt_s, hF_τh]
                    first | with_reducible rfl | (simp only [zRlS, zSd, hO, c_2, c_4, c_7, c_10, c_12, eq_self, ne_eq, not_true_eq_false, not_false_eq_true, and_true, true_and, and_self, and_false, false_and, true_or, or_true, false_or, or_false, reduceIte]; done) | (simp [zRlS, zSd, hO, c_2, c_4, c_7, c_10, c_12]; done) | rfl | (simp_all [zRlS, zSd]; done)
                  refine ih1 (h + 1) _ _ _ (by omega) (by omega) ?_ hS ?_
                  · first | exact hM | (rw [e_14]; exact hM)
                  · first | exact lv_sub hl [0, 2, 3] rfl | (rw [e_14]; exact lv_sub hl [0, 2, 3] rfl)
                · skip
                  have c_13 := zBi_n0.mp c_13
                  have hM := hM.cast rfl rfl rfl (zPay_y c_13)
                  refine lv_iconst (v := 1) hx hb dX5_deliverByRelay_63 (by decide) ?_
                  refine lv_goto (tgt := 68) hx hb dX5_deliverByRelay_64 (by decide) ?_
                  refine lv_istore_n (lv' := [(3, .int 1), (2, .int (nI h)), (1, .int (nI b)), (0, .ref (ad 0))]) hx hb dX5_deliverByRelay_68 rfl hl (by decide) rfl (fun ls hl => ?_)
                  refine lv_iload_n hx hb dX5_deliverByRelay_69 rfl (lv_at hl 0 rfl) ?_
                  refine lv_if_eq (tgt := 96) hx hb dX5_deliverByRelay_70 (by decide) (fun q => absurd q (by decide)) (fun _ => ?_)
                  refine lv_aload_n hx hb dX5_deliverByRelay_73 rfl (lv_at hl 3 rfl) ?_
                  refine lv_iload_n hx hb dX5_deliverByRelay_74 rfl (lv_at hl 2 rfl) ?_
                  refine z_vi (As := [.int (nI b)]) (rest := []) (P2 := zMP G ad Y n g ((zTk g (zPd τh h (zCo g (zDs τh h b))) b).1)) (r := (zTk g (zPd τh h (zCo g (zDs τh h b))) b).2) S (c_X5_takesIn l G A ad Y n g hA hn12  (zPd τh h (zCo g (zDs τh h b))) b (by omega)) (cwV 1 hts gX5_deliverByRelay_X5_takesIn rfl rfl rfl (by decide +kernel) ⟨Nat.le_of_ble_eq_true rfl, Nat.le_of_ble_eq_true rfl⟩) (z_recM hK hM) hM hK hS (fun _ _ h => h) (fun _ h => h) hl.1 rfl rfl (Nat.le_of_ble_eq_true rfl) dX5_deliverByRelay_75 ⟨Nat.le_refl _, Nat.le_refl _⟩ (fun H locs hM hS _ => ?_)
                  refine lv_if_eq (tgt := 96) hx hb dX5_deliverByRelay_78 (by decide) (fun c_15 => ?_) (fun c_16 => ?_)
                  · skip
                    refine lv_iinc (v := nI (h + 1)) (lv' := [(2, .int (nI (h + 1))), (3, .int 1), (1, .int (nI b)), (0, .ref (ad 0))]) hx hb dX5_deliverByRelay_96 hl (k := 1) rfl (nI_1 _) (by decide) rfl (fun ls hl => ?_)
                    refine lv_goto (tgt := 14) hx hb dX5_deliverByRelay_99 (by decide) ?_
                    have e_17 : zIt (zRlS g b) (h + 1) τ = (zTk g (zPd τh h (zCo g (zDs τh h b))) b).1 := by
                      rw [zIt_s, hF_τh]
                      first | with_reducible rfl | (simp only [zRlS, zSd, hO, c_2, c_4, c_7, c_10, c_13, c_15, eq_self, ne_eq, not_true_eq_false, not_false_eq_true, and_true, true_and, and_self, and_false, false_and, true_or, or_true, false_or, or_false, reduceIte]; done) | (simp [zRlS, zSd, hO, c_2, c_4, c_7, c_10, c_13, c_15]; done) | rfl | (simp_all [zRlS, zSd]; done)
                    refine ih1 (h + 1) _ _ _ (by omega) (by omega) ?_ hS ?_
                    · first | exact hM | (rw [e_17]; exact hM)
                    · first | exact lv_sub hl [0, 2, 3] rfl | (rw [e_17]; exact lv_sub hl [0, 2, 3] rfl)
                  · skip
                    refine lv_aload_n hx hb dX5_deliverByRelay_81 rfl (lv_at hl 3 rfl) ?_
                    refine z_getM (v := .ref (ad 7)) hx hb hts hown in_X5_deliverByRelay_X5 hK hM 8 (by decide) rfl (hts _ (List.mem_of_getElem? (i := 2) (by decide +kernel))) rfl dX5_deliverByRelay_82 ?_
                    refine lv_iload_n hx hb dX5_deliverByRelay_85 rfl (lv_at hl 2 rfl) ?_
                    refine lv_dup2_11 hx hb dX5_deliverByRelay_86 rfl rfl ?_
                    refine z_ldM (w := ((zTk g (zPd τh h (zCo g (zDs τh h b))) b).1) 9 b) hx hb hK hM 7 rfl b rfl (by omega) (by decide) rfl dX5_deliverByRelay_87 ?_
                    refine lv_aload_n hx hb dX5_deliverByRelay_88 rfl (lv_at hl 3 rfl) ?_
                    refine z_getM (v := .ref (ad 7)) hx hb hts hown in_X5_deliverByRelay_X5 hK hM 8 (by decide) rfl (hts _ (List.mem_of_getElem? (i := 2) (by decide +kernel))) rfl dX5_deliverByRelay_89 ?_
                    refine lv_iload_n hx hb dX5_deliverByRelay_92 rfl (lv_at hl 1 rfl) ?_
                    refine z_ldM (w := ((zTk g (zPd τh h (zCo g (zDs τh h b))) b).1) 9 h) hx hb hK hM 7 rfl h rfl (by omega) (by decide) rfl dX5_deliverByRelay_93 ?_
                    refine lv_iadd hx hb dX5_deliverByRelay_94 ?_
                    refine z_stM (w := (((zTk g (zPd τh h (zCo g (zDs τh h b))) b).1) 9 b) + (((zTk g (zPd τh h (zCo g (zDs τh h b))) b).1) 9 h)) hx hb hK hA hS hM 7 rfl b rfl (by omega) (by decide) (zMP G ad Y n g (zSt ((zTk g (zPd τh h (zCo g (zDs τh h b))) b).1) 9 b ((((zTk g (zPd τh h (zCo g (zDs τh h b))) b).1) 9 b) + (((zTk g (zPd τh h (zCo g (zDs τh h b))) b).1) 9 h)))) (z_mw G ad Y n g ((zTk g (zPd τh h (zCo g (zDs τh h b))) b).1) b ((((zTk g (zPd τh h (zCo g (zDs τh h b))) b).1) 9 b) + (((zTk g (zPd τh h (zCo g (zDs τh h b))) b).1) 9 h))) dX5_deliverByRelay_95 (fun H locs hM hS => ?_)
                    refine lv_iinc (v := nI (h + 1)) (lv' := [(2, .int (nI (h + 1))), (3, .int 1), (1, .int (nI b)), (0, .ref (ad 0))]) hx hb dX5_deliverByRelay_96 hl (k := 1) rfl (nI_1 _) (by decide) rfl (fun ls hl => ?_)
                    refine lv_goto (tgt := 14) hx hb dX5_deliverByRelay_99 (by decide) ?_
                    have e_18 : zIt (zRlS g b) (h + 1) τ = zSt ((zTk g (zPd τh h (zCo g (zDs τh h b))) b).1) 9 b ((((zTk g (zPd τh h (zCo g (zDs τh h b))) b).1) 9 b) + (((zTk g (zPd τh h (zCo g (zDs τh h b))) b).1) 9 h)) := by
                      rw [zIt_s, hF_τh]
                      first | with_reducible rfl | (simp only [zRlS, zSd, hO, c_2, c_4, c_7, c_10, c_13, c_16, eq_self, ne_eq, not_true_eq_false, not_false_eq_true, and_true, true_and, and_self, and_false, false_and, true_or, or_true, false_or, or_false, reduceIte]; done) | (simp [zRlS, zSd, hO, c_2, c_4, c_7, c_10, c_13, c_16]; done) | rfl | (simp_all [zRlS, zSd]; done)
                    refine ih1 (h + 1) _ _ _ (by omega) (by omega) ?_ hS ?_
                    · first | exact hM | (rw [e_18]; exact hM)
                    · first | exact lv_sub hl [0, 2, 3] rfl | (rw [e_18]; exact lv_sub hl [0, 2, 3] rfl)
    exact loop1 (n + 1) 0 _ _ _ (by omega) (by omega) hM hS (lv_sub hl [0, 1, 2] rfl)

theorem in_X5_deliverAlone_X5 : ∀ w ∈ wsX50, w ∈ wsX5_deliverAlone := by decide +kernel
set_option maxHeartbeats 4000000 in
set_option maxRecDepth 100000 in
theorem c_X5_deliverAlone (l : Launch) (G : zG) (A : Nat → Prop) (ad : Nat → Nat) (Y : zY) (n : Nat) (g : Nat → Int32) (hA : zAm G ad A) (hn12 : n ≤ 12) (hd5 : 0 < g 5) (τ : zT) : zMv l G A yX5_deliverAlone wsX5_deliverAlone 4 89 [.ref (ad 0)] (zMP G ad Y n g τ) (zMP G ad Y n g (zIt (zAlS g) n τ)) := by
  refine z_met (cc := cX5_deliverAlone) (maxL := 2) (ret := none) (by decide) rfl (Nat.le_of_ble_eq_true rfl) ?_
  intro p e s m below meth c ls S hr hlk hnm hM hK hl
  have S : CallFix p m c cX5_deliverAlone 2 s _ wsX5_deliverAlone RX5 := S
  obtain ⟨hx, hb, hml, hown, hts⟩ := id S
  have hS : va_S A s.heap s.heap [] := va_S.rf
  have hl : lv_has ls 2 [(0, .ref (ad 0))] := hl
  refine lv_iconst (v := 0) hx hb dX5_deliverAlone_0 (by decide) ?_
  refine lv_istore_n (lv' := [(1, .int 0), (0, .ref (ad 0))]) hx hb dX5_deliverAlone_1 rfl hl (by decide) rfl (fun ls hl => ?_)
  have loop1 : ∀ (f1 k : Nat) (H : Heap) (locs : List Loc) (ls : Array Slot), k ≤ n → n < k + f1 → zMP G ad Y n g (zIt (zAlS g) k τ) H → va_S A s.heap H locs → lv_has ls 2 [(1, .int (nI k)), (0, .ref (ad 0))] → W p l e ({ frames := 4, cells := 0, slots := 0, locals := 89 } : Room) s m ([.ref (ad 0)] : List Value).toArray below meth c H locs 0 0 (MQ below (zQv G (zMP G ad Y n g (zIt (zAlS g) n τ)) A) ([.ref (ad 0)] : List Value).toArray s 0 0 A) (F0 m 2 ls []) := by
    intro f1
    induction f1 with
    | zero => intro k H locs ls h1 h2; exact absurd h2 (by omega)
    | succ f1 ih1 =>
      intro k H locs ls hk1 hf1 hM hS hl
      generalize hF_τk : zIt (zAlS g) k τ = τk at hM hl 
      refine lv_iload_n hx hb dX5_deliverAlone_2 rfl (lv_at hl 0 rfl) ?_
      refine lv_aload_n hx hb dX5_deliverAlone_3 rfl (lv_at hl 1 rfl) ?_
      refine z_getM (v := .ref (ad 1)) hx hb hts hown in_X5_deliverAlone_X5 hK hM 1 (by decide) rfl (hts _ (List.mem_of_getElem? (i := 1) (by decide +kernel))) rfl dX5_deliverAlone_4 ?_
      refine lv_iconst (v := 0) hx hb dX5_deliverAlone_7 (by decide) ?_
      refine z_ldM (w := nI n) hx hb hK hM 1 rfl 0 (by decide) (by decide) (by decide) rfl dX5_deliverAlone_8 ?_
      refine lv_icmp_ge (tgt := 30) hx hb dX5_deliverAlone_9 (by decide) (fun c_1 => ?_) (fun c_2 => ?_)
      · skip
        have c_1 := (z_leI (a := n) (b := k) (by omega) (by omega)).mp c_1
        have hkn1 : k = n := by omega
        rw [hkn1] at hF_τk
        subst hF_τk
        exact z_vret hx hb hr hlk hK hS (hM.cast rfl rfl rfl (by first | with_reducible rfl | (simp only [c_1, eq_self, ne_eq, not_true_eq_false, not_false_eq_true, and_true, true_and, and_self, and_false, false_and, true_or, or_true, false_or, or_false, reduceIte]; done) | (simp [c_1]; done) | rfl | (simp_all []; done))) dX5_deliverAlone_30
      · skip
        have c_2 := (not_congr (z_leI (a := n) (b := k) (by omega) (by omega))).mp c_2
        refine lv_aload_n hx hb dX5_deliverAlone_12 rfl (lv_at hl 1 rfl) ?_
        refine z_getM (v := .ref (ad 7)) hx hb hts hown in_X5_deliverAlone_X5 hK hM 8 (by decide) rfl (hts _ (List.mem_of_getElem? (i := 2) (by decide +kernel))) rfl dX5_deliverAlone_13 ?_
        refine lv_iload_n hx hb dX5_deliverAlone_16 rfl (lv_at hl 0 rfl) ?_
        refine lv_iconst (v := 1) hx hb dX5_deliverAlone_17 (by decide) ?_
        refine z_stM (w := 1) hx hb hK hA hS hM 7 rfl k rfl (by omega) (by decide) (zMP G ad Y n g (zSt τk 9 k 1)) (z_mw G ad Y n g τk k 1) dX5_deliverAlone_18 (fun H locs hM hS => ?_)
        refine lv_aload_n hx hb dX5_deliverAlone_19 rfl (lv_at hl 1 rfl) ?_
        refine lv_iload_n hx hb dX5_deliverAlone_20 rfl (lv_at hl 0 rfl) ?_
        refine z_vv (As := [.int (nI k)]) (rest := []) (P2 := zMP G ad Y n g (zDmS g k (zSt τk 9 k 1))) S (c_X5_deliver l G A ad Y n g hA hn12 hd5 (zSt τk 9 k 1) k (by omega)) (cwV 1 hts gX5_deliverAlone_X5_deliver rfl rfl rfl (by decide +kernel) ⟨Nat.le_of_ble_eq_true rfl, Nat.le_of_ble_eq_true rfl⟩) (z_recM hK hM) hM hK hS (fun _ _ h => h) (fun _ h => h) hl.1 rfl rfl (Nat.le_of_ble_eq_true rfl) dX5_deliverAlone_21 ⟨Nat.le_refl _, Nat.le_refl _⟩ (fun H locs hM hS _ => ?_)
        refine lv_iinc (v := nI (k + 1)) (lv' := [(1, .int (nI (k + 1))), (0, .ref (ad 0))]) hx hb dX5_deliverAlone_24 hl (k := 0) rfl (nI_1 _) (by decide) rfl (fun ls hl => ?_)
        refine lv_goto (tgt := 2) hx hb dX5_deliverAlone_27 (by decide) ?_
        have e_3 : zIt (zAlS g) (k + 1) τ = zDmS g k (zSt τk 9 k 1) := by
          rw [zIt_s, hF_τk]
          first | with_reducible rfl | (simp only [zAlS, c_2, eq_self, ne_eq, not_true_eq_false, not_false_eq_true, and_true, true_and, and_self, and_false, false_and, true_or, or_true, false_or, or_false, reduceIte]; done) | (simp [zAlS, c_2]; done) | rfl | (simp_all [zAlS]; done)
        refine ih1 (k + 1) _ _ _ (by omega) (by omega) ?_ hS ?_
        · first | exact hM | (rw [e_3]; exact hM)
        · first | exact lv_sub hl [0, 1] rfl | (rw [e_3]; exact lv_sub hl [0, 1] rfl)
  exact loop1 (n + 1) 0 _ _ _ (by omega) (by omega) hM hS (lv_sub hl [0, 1] rfl)

theorem in_X5_deliverAll_X5 : ∀ w ∈ wsX50, w ∈ wsX5_deliverAll := by decide +kernel
set_option maxHeartbeats 4000000 in
set_option maxRecDepth 100000 in
theorem c_X5_deliverAll (l : Launch) (G : zG) (A : Nat → Prop) (ad : Nat → Nat) (Y : zY) (n : Nat) (g : Nat → Int32) (hA : zAm G ad A) (hn12 : n ≤ 12) (hd5 : 0 < g 5) (τ : zT) : zMv l G A yX5_deliverAll wsX5_deliverAll 4 89 [.ref (ad 0)] (zMP G ad Y n g τ) (zMP G ad Y n g (zIt (zDdS g) n τ)) := by
  refine z_met (cc := cX5_deliverAll) (maxL := 2) (ret := none) (by decide) rfl (Nat.le_of_ble_eq_true rfl) ?_
  intro p e s m below meth c ls S hr hlk hnm hM hK hl
  have S : CallFix p m c cX5_deliverAll 2 s _ wsX5_deliverAll RX5 := S
  obtain ⟨hx, hb, hml, hown, hts⟩ := id S
  have hS : va_S A s.heap s.heap [] := va_S.rf
  have hl : lv_has ls 2 [(0, .ref (ad 0))] := hl
  refine lv_iconst (v := 0) hx hb dX5_deliverAll_0 (by decide) ?_
  refine lv_istore_n (lv' := [(1, .int 0), (0, .ref (ad 0))]) hx hb dX5_deliverAll_1 rfl hl (by decide) rfl (fun ls hl => ?_)
  have loop1 : ∀ (f1 h : Nat) (H : Heap) (locs : List Loc) (ls : Array Slot), h ≤ n → n < h + f1 → zMP G ad Y n g (zIt (zDdS g) h τ) H → va_S A s.heap H locs → lv_has ls 2 [(1, .int (nI h)), (0, .ref (ad 0))] → W p l e ({ frames := 4, cells := 0, slots := 0, locals := 89 } : Room) s m ([.ref (ad 0)] : List Value).toArray below meth c H locs 0 0 (MQ below (zQv G (zMP G ad Y n g (zIt (zDdS g) n τ)) A) ([.ref (ad 0)] : List Value).toArray s 0 0 A) (F0 m 2 ls []) := by
    intro f1
    induction f1 with
    | zero => intro h H locs ls h1 h2; exact absurd h2 (by omega)
    | succ f1 ih1 =>
      intro h H locs ls hk1 hf1 hM hS hl
      generalize hF_τh : zIt (zDdS g) h τ = τh at hM hl 
      refine lv_iload_n hx hb dX5_deliverAll_2 rfl (lv_at hl 0 rfl) ?_
      refine lv_aload_n hx hb dX5_deliverAll_3 rfl (lv_at hl 1 rfl) ?_
      refine z_getM (v := .ref (ad 1)) hx hb hts hown in_X5_deliverAll_X5 hK hM 1 (by decide) rfl (hts _ (List.mem_of_getElem? (i := 1) (by decide +kernel))) rfl dX5_deliverAll_4 ?_
      refine lv_iconst (v := 0) hx hb dX5_deliverAll_7 (by decide) ?_
      refine z_ldM (w := nI n) hx hb hK hM 1 rfl 0 (by decide) (by decide) (by decide) rfl dX5_deliverAll_8 ?_
      refine lv_icmp_ge (tgt := 31) hx hb dX5_deliverAll_9 (by decide) (fun c_1 => ?_) (fun c_2 => ?_)
      · skip
        have c_1 := (z_leI (a := n) (b := h) (by omega) (by omega)).mp c_1
        have hkn1 : h = n := by omega
        rw [hkn1] at hF_τh
        subst hF_τh
        exact z_vret hx hb hr hlk hK hS (hM.cast rfl rfl rfl (by first | with_reducible rfl | (simp only [c_1, eq_self, ne_eq, not_true_eq_false, not_false_eq_true, and_true, true_and, and_self, and_false, false_and, true_or, or_true, false_or, or_false, reduceIte]; done) | (simp [c_1]; done) | rfl | (simp_all []; done))) dX5_deliverAll_31
      · skip
        have c_2 := (not_congr (z_leI (a := n) (b := h) (by omega) (by omega))).mp c_2
        refine lv_aload_n hx hb dX5_deliverAll_12 rfl (lv_at hl 1 rfl) ?_
        refine lv_iload_n hx hb dX5_deliverAll_13 rfl (lv_at hl 0 rfl) ?_
        refine z_vi (As := [.int (nI h)]) (rest := []) (P2 := zMP G ad Y n g τh) (r := zBi (τh 7 h = nI h)) S (c_X5_isHead l G A ad Y n g hA hn12  τh h (by omega)) (cwV 1 hts gX5_deliverAll_X5_isHead rfl rfl rfl (by decide +kernel) ⟨Nat.le_of_ble_eq_true rfl, Nat.le_of_ble_eq_true rfl⟩) (z_recM hK hM) hM hK hS (fun _ _ h => h) (fun _ h => h) hl.1 rfl rfl (Nat.le_of_ble_eq_true rfl) dX5_deliverAll_14 ⟨Nat.le_refl _, Nat.le_refl _⟩ (fun H locs hM hS _ => ?_)
        refine lv_if_eq (tgt := 25) hx hb dX5_deliverAll_17 (by decide) (fun c_3 => ?_) (fun c_4 => ?_)
        · skip
          have c_3 := zBi_0.mp c_3
          refine lv_iinc (v := nI (h + 1)) (lv' := [(1, .int (nI (h + 1))), (0, .ref (ad 0))]) hx hb dX5_deliverAll_25 hl (k := 0) rfl (nI_1 _) (by decide) rfl (fun ls hl => ?_)
          refine lv_goto (tgt := 2) hx hb dX5_deliverAll_28 (by decide) ?_
          have e_5 : zIt (zDdS g) (h + 1) τ = τh := by
            rw [zIt_s, hF_τh]
            first | with_reducible rfl | (simp only [zDdS, zDmS, c_2, c_3, eq_self, ne_eq, not_true_eq_false, not_false_eq_true, and_true, true_and, and_self, and_false, false_and, true_or, or_true, false_or, or_false, reduceIte]; done) | (simp [zDdS, zDmS, c_2, c_3]; done) | rfl | (simp_all [zDdS, zDmS]; done)
          refine ih1 (h + 1) _ _ _ (by omega) (by omega) ?_ hS ?_
          · first | exact hM | (rw [e_5]; exact hM)
          · first | exact lv_sub hl [0, 1] rfl | (rw [e_5]; exact lv_sub hl [0, 1] rfl)
        · skip
          have c_4 := zBi_n0.mp c_4
          refine lv_aload_n hx hb dX5_deliverAll_20 rfl (lv_at hl 1 rfl) ?_
          refine lv_iload_n hx hb dX5_deliverAll_21 rfl (lv_at hl 0 rfl) ?_
          refine z_vv (As := [.int (nI h)]) (rest := []) (P2 := zMP G ad Y n g (zDmS g h τh)) S (c_X5_deliver l G A ad Y n g hA hn12 hd5 τh h (by omega)) (cwV 1 hts gX5_deliverAll_X5_deliver rfl rfl rfl (by decide +kernel) ⟨Nat.le_of_ble_eq_true rfl, Nat.le_of_ble_eq_true rfl⟩) (z_recM hK hM) hM hK hS (fun _ _ h => h) (fun _ h => h) hl.1 rfl rfl (Nat.le_of_ble_eq_true rfl) dX5_deliverAll_22 ⟨Nat.le_refl _, Nat.le_refl _⟩ (fun H locs hM hS _ => ?_)
          refine lv_iinc (v := nI (h + 1)) (lv' := [(1, .int (nI (h + 1))), (0, .ref (ad 0))]) hx hb dX5_deliverAll_25 hl (k := 0) rfl (nI_1 _) (by decide) rfl (fun ls hl => ?_)
          refine lv_goto (tgt := 2) hx hb dX5_deliverAll_28 (by decide) ?_
          have e_6 : zIt (zDdS g) (h + 1) τ = zDmS g h τh := by
            rw [zIt_s, hF_τh]
            first | with_reducible rfl | (simp only [zDdS, zDmS, c_2, c_4, eq_self, ne_eq, not_true_eq_false, not_false_eq_true, and_true, true_and, and_self, and_false, false_and, true_or, or_true, false_or, or_false, reduceIte]; done) | (simp [zDdS, zDmS, c_2, c_4]; done) | rfl | (simp_all [zDdS, zDmS]; done)
          refine ih1 (h + 1) _ _ _ (by omega) (by omega) ?_ hS ?_
          · first | exact hM | (rw [e_6]; exact hM)
          · first | exact lv_sub hl [0, 1] rfl | (rw [e_6]; exact lv_sub hl [0, 1] rfl)
  exact loop1 (n + 1) 0 _ _ _ (by omega) (by omega) hM hS (lv_sub hl [0, 1] rfl)

theorem in_X5_perform_X5 : ∀ w ∈ wsX50, w ∈ wsX5_perform := by decide +kernel
set_option maxHeartbeats 4000000 in
set_option maxRecDepth 100000 in
theorem c_X5_perform (l : Launch) (G : zG) (A : Nat → Prop) (ad : Nat → Nat) (Y : zY) (n : Nat) (g : Nat → Int32) (hA : zAm G ad A) (hn12 : n ≤ 12) (hd3 : 0 < g 3) (hd5 : 0 < g 5) (τ : zT) : zMv l G A yX5_perform wsX5_perform 5 116 [.ref (ad 0)] (zMP G ad Y n g τ) (zMP G ad Y n g (zMd n g τ)) := by
  refine z_met (cc := cX5_perform) (maxL := 1) (ret := none) (by decide) rfl (Nat.le_of_ble_eq_true rfl) ?_
  intro p e s m below meth c ls S hr hlk hnm hM hK hl
  have S : CallFix p m c cX5_perform 1 s _ wsX5_perform RX5 := S
  obtain ⟨hx, hb, hml, hown, hts⟩ := id S
  have hS : va_S A s.heap s.heap [] := va_S.rf
  have hl : lv_has ls 1 [(0, .ref (ad 0))] := hl
  refine lv_aload_n hx hb dX5_perform_0 rfl (lv_at hl 0 rfl) ?_
  refine z_vv (As := []) (rest := []) (P2 := zMP G ad Y n g (zEm n g τ)) S (c_X5_elect l G A ad Y n g hA hn12 hd3 τ ) (cwV 0 hts gX5_perform_X5_elect rfl rfl rfl (by decide +kernel) ⟨Nat.le_of_ble_eq_true rfl, Nat.le_of_ble_eq_true rfl⟩) (z_recM hK hM) hM hK hS (fun _ _ h => h) (fun _ h => h) hl.1 rfl rfl (Nat.le_of_ble_eq_true rfl) dX5_perform_1 ⟨Nat.le_refl _, Nat.le_refl _⟩ (fun H locs hM hS _ => ?_)
  refine lv_aload_n hx hb dX5_perform_4 rfl (lv_at hl 0 rfl) ?_
  refine z_vv (As := []) (rest := []) (P2 := zMP G ad Y n g (zAm2 n g (zEm n g τ))) S (c_X5_announce l G A ad Y n g hA hn12  (zEm n g τ) ) (cwV 0 hts gX5_perform_X5_announce rfl rfl rfl (by decide +kernel) ⟨Nat.le_of_ble_eq_true rfl, Nat.le_of_ble_eq_true rfl⟩) (z_recM hK hM) hM hK hS (fun _ _ h => h) (fun _ h => h) hl.1 rfl rfl (Nat.le_of_ble_eq_true rfl) dX5_perform_5 ⟨Nat.le_refl _, Nat.le_refl _⟩ (fun H locs hM hS _ => ?_)
  refine lv_aload_n hx hb dX5_perform_8 rfl (lv_at hl 0 rfl) ?_
  refine z_vv (As := []) (rest := []) (P2 := zMP G ad Y n g (zIt (zJmS n) n (zAm2 n g (zEm n g τ)))) S (c_X5_join l G A ad Y n g hA hn12  (zAm2 n g (zEm n g τ)) ) (cwV 0 hts gX5_perform_X5_join rfl rfl rfl (by decide +kernel) ⟨Nat.le_of_ble_eq_true rfl, Nat.le_of_ble_eq_true rfl⟩) (z_recM hK hM) hM hK hS (fun _ _ h => h) (fun _ h => h) hl.1 rfl rfl (Nat.le_of_ble_eq_true rfl) dX5_perform_9 ⟨Nat.le_refl _, Nat.le_refl _⟩ (fun H locs hM hS _ => ?_)
  refine lv_aload_n hx hb dX5_perform_12 rfl (lv_at hl 0 rfl) ?_
  refine z_getM (v := .ref (ad 1)) hx hb hts hown in_X5_perform_X5 hK hM 1 (by decide) rfl (hts _ (List.mem_of_getElem? (i := 1) (by decide +kernel))) rfl dX5_perform_13 ?_
  refine lv_bipush (v := 12) hx hb dX5_perform_16 (by decide) ?_
  refine lv_iconst (v := 0) hx hb dX5_perform_18 (by decide) ?_
  refine z_stM (w := 0) hx hb hK hA hS hM 1 rfl 12 (by decide) (by decide) (by decide) (zMP G ad Y n g (zSt (zIt (zJmS n) n (zAm2 n g (zEm n g τ))) 11 12 0)) (z_mg G ad Y n g (zIt (zJmS n) n (zAm2 n g (zEm n g τ))) (by decide) (by decide) 0) dX5_perform_19 (fun H locs hM hS => ?_)
  refine lv_aload_n hx hb dX5_perform_20 rfl (lv_at hl 0 rfl) ?_
  refine z_getM (v := .ref (ad 1)) hx hb hts hown in_X5_perform_X5 hK hM 1 (by decide) rfl (hts _ (List.mem_of_getElem? (i := 1) (by decide +kernel))) rfl dX5_perform_21 ?_
  refine lv_bipush (v := 11) hx hb dX5_perform_24 (by decide) ?_
  refine z_ldM (w := (zIt (zJmS n) n (zAm2 n g (zEm n g τ))) 11 11) hx hb hK hM 1 rfl 11 (by decide) (by decide) (by decide) rfl dX5_perform_26 ?_
  refine lv_if_ne (tgt := 37) hx hb dX5_perform_27 (by decide) (fun c_1 => ?_) (fun c_2 => ?_)
  · skip
    refine lv_aload_n hx hb dX5_perform_37 rfl (lv_at hl 0 rfl) ?_
    refine z_vv (As := []) (rest := []) (P2 := zMP G ad Y n g (zIt (zOwS g) n (zIt (zRm n g) n (zSt (zIt (zJmS n) n (zAm2 n g (zEm n g τ))) 11 12 0)))) S (c_X5_report l G A ad Y n g hA hn12 hd5 (zSt (zIt (zJmS n) n (zAm2 n g (zEm n g τ))) 11 12 0) ) (cwV 0 hts gX5_perform_X5_report rfl rfl rfl (by decide +kernel) ⟨Nat.le_of_ble_eq_true rfl, Nat.le_of_ble_eq_true rfl⟩) (z_recM hK hM) hM hK hS (fun _ _ h => h) (fun _ h => h) hl.1 rfl rfl (Nat.le_of_ble_eq_true rfl) dX5_perform_38 ⟨Nat.le_refl _, Nat.le_refl _⟩ (fun H locs hM hS _ => ?_)
    refine lv_aload_n hx hb dX5_perform_41 rfl (lv_at hl 0 rfl) ?_
    refine lv_iconst (v := 5) hx hb dX5_perform_42 (by decide) ?_
    refine z_vi (As := [.int 5]) (rest := []) (P2 := zMP G ad Y n g (zIt (zOwS g) n (zIt (zRm n g) n (zSt (zIt (zJmS n) n (zAm2 n g (zEm n g τ))) 11 12 0)))) (r := g 8) S (c_X5_setting l G A ad Y n g hA hn12  (zIt (zOwS g) n (zIt (zRm n g) n (zSt (zIt (zJmS n) n (zAm2 n g (zEm n g τ))) 11 12 0))) 5 (by omega)) (cwV 1 hts gX5_perform_X5_setting rfl rfl rfl (by decide +kernel) ⟨Nat.le_of_ble_eq_true rfl, Nat.le_of_ble_eq_true rfl⟩) (z_recM hK hM) hM hK hS (fun _ _ h => h) (fun _ h => h) hl.1 rfl rfl (Nat.le_of_ble_eq_true rfl) dX5_perform_43 ⟨Nat.le_refl _, Nat.le_refl _⟩ (fun H locs hM hS _ => ?_)
    refine lv_iconst (v := 1) hx hb dX5_perform_46 (by decide) ?_
    refine lv_icmp_ne (tgt := 57) hx hb dX5_perform_47 (by decide) (fun c_3 => ?_) (fun c_4 => ?_)
    · skip
      refine lv_aload_n hx hb dX5_perform_57 rfl (lv_at hl 0 rfl) ?_
      refine z_vv (As := []) (rest := []) (P2 := zMP G ad Y n g (zIt (zDdS g) n (zIt (zOwS g) n (zIt (zRm n g) n (zSt (zIt (zJmS n) n (zAm2 n g (zEm n g τ))) 11 12 0))))) S (c_X5_deliverAll l G A ad Y n g hA hn12 hd5 (zIt (zOwS g) n (zIt (zRm n g) n (zSt (zIt (zJmS n) n (zAm2 n g (zEm n g τ))) 11 12 0))) ) (cwV 0 hts gX5_perform_X5_deliverAll rfl rfl rfl (by decide +kernel) ⟨Nat.le_of_ble_eq_true rfl, Nat.le_of_ble_eq_true rfl⟩) (z_recM hK hM) hM hK hS (fun _ _ h => h) (fun _ h => h) hl.1 rfl rfl (Nat.le_of_ble_eq_true rfl) dX5_perform_58 ⟨Nat.le_refl _, Nat.le_refl _⟩ (fun H locs hM hS _ => ?_)
      refine lv_aload_n hx hb dX5_perform_61 rfl (lv_at hl 0 rfl) ?_
      refine z_getM (v := .ref (ad 1)) hx hb hts hown in_X5_perform_X5 hK hM 1 (by decide) rfl (hts _ (List.mem_of_getElem? (i := 1) (by decide +kernel))) rfl dX5_perform_62 ?_
      refine lv_bipush (v := 13) hx hb dX5_perform_65 (by decide) ?_
      refine lv_dup2_11 hx hb dX5_perform_67 rfl rfl ?_
      refine z_ldM (w := (zIt (zDdS g) n (zIt (zOwS g) n (zIt (zRm n g) n (zSt (zIt (zJmS n) n (zAm2 n g (zEm n g τ))) 11 12 0)))) 11 13) hx hb hK hM 1 rfl 13 (by decide) (by decide) (by decide) rfl dX5_perform_68 ?_
      refine lv_aload_n hx hb dX5_perform_69 rfl (lv_at hl 0 rfl) ?_
      refine z_getM (v := .ref (ad 1)) hx hb hts hown in_X5_perform_X5 hK hM 1 (by decide) rfl (hts _ (List.mem_of_getElem? (i := 1) (by decide +kernel))) rfl dX5_perform_70 ?_
      refine lv_bipush (v := 12) hx hb dX5_perform_73 (by decide) ?_
      refine z_ldM (w := (zIt (zDdS g) n (zIt (zOwS g) n (zIt (zRm n g) n (zSt (zIt (zJmS n) n (zAm2 n g (zEm n g τ))) 11 12 0)))) 11 12) hx hb hK hM 1 rfl 12 (by decide) (by decide) (by decide) rfl dX5_perform_75 ?_
      refine lv_iadd hx hb dX5_perform_76 ?_
      refine z_stM (w := ((zIt (zDdS g) n (zIt (zOwS g) n (zIt (zRm n g) n (zSt (zIt (zJmS n) n (zAm2 n g (zEm n g τ))) 11 12 0)))) 11 13) + ((zIt (zDdS g) n (zIt (zOwS g) n (zIt (zRm n g) n (zSt (zIt (zJmS n) n (zAm2 n g (zEm n g τ))) 11 12 0)))) 11 12)) hx hb hK hA hS hM 1 rfl 13 (by decide) (by decide) (by decide) (zMP G ad Y n g (zSt (zIt (zDdS g) n (zIt (zOwS g) n (zIt (zRm n g) n (zSt (zIt (zJmS n) n (zAm2 n g (zEm n g τ))) 11 12 0)))) 11 13 (((zIt (zDdS g) n (zIt (zOwS g) n (zIt (zRm n g) n (zSt (zIt (zJmS n) n (zAm2 n g (zEm n g τ))) 11 12 0)))) 11 13) + ((zIt (zDdS g) n (zIt (zOwS g) n (zIt (zRm n g) n (zSt (zIt (zJmS n) n (zAm2 n g (zEm n g τ))) 11 12 0)))) 11 12)))) (z_mg G ad Y n g (zIt (zDdS g) n (zIt (zOwS g) n (zIt (zRm n g) n (zSt (zIt (zJmS n) n (zAm2 n g (zEm n g τ))) 11 12 0)))) (by decide) (by decide) (((zIt (zDdS g) n (zIt (zOwS g) n (zIt (zRm n g) n (zSt (zIt (zJmS n) n (zAm2 n g (zEm n g τ))) 11 12 0)))) 11 13) + ((zIt (zDdS g) n (zIt (zOwS g) n (zIt (zRm n g) n (zSt (zIt (zJmS n) n (zAm2 n g (zEm n g τ))) 11 12 0)))) 11 12))) dX5_perform_77 (fun H locs hM hS => ?_)
      refine lv_aload_n hx hb dX5_perform_78 rfl (lv_at hl 0 rfl) ?_
      refine z_getM (v := .ref (ad 1)) hx hb hts hown in_X5_perform_X5 hK hM 1 (by decide) rfl (hts _ (List.mem_of_getElem? (i := 1) (by decide +kernel))) rfl dX5_perform_79 ?_
      refine lv_bipush (v := 10) hx hb dX5_perform_82 (by decide) ?_
      refine lv_dup2_11 hx hb dX5_perform_84 rfl rfl ?_
      refine z_ldM (w := (zIt (zDdS g) n (zIt (zOwS g) n (zIt (zRm n g) n (zSt (zIt (zJmS n) n (zAm2 n g (zEm n g τ))) 11 12 0)))) 11 10) hx hb hK hM 1 rfl 10 (by decide) (by decide) (by decide) rfl dX5_perform_85 ?_
      refine lv_iconst (v := 1) hx hb dX5_perform_86 (by decide) ?_
      refine lv_iadd hx hb dX5_perform_87 ?_
      refine z_stM (w := ((zIt (zDdS g) n (zIt (zOwS g) n (zIt (zRm n g) n (zSt (zIt (zJmS n) n (zAm2 n g (zEm n g τ))) 11 12 0)))) 11 10) + 1) hx hb hK hA hS hM 1 rfl 10 (by decide) (by decide) (by decide) (zMP G ad Y n g (zSt (zSt (zIt (zDdS g) n (zIt (zOwS g) n (zIt (zRm n g) n (zSt (zIt (zJmS n) n (zAm2 n g (zEm n g τ))) 11 12 0)))) 11 13 (((zIt (zDdS g) n (zIt (zOwS g) n (zIt (zRm n g) n (zSt (zIt (zJmS n) n (zAm2 n g (zEm n g τ))) 11 12 0)))) 11 13) + ((zIt (zDdS g) n (zIt (zOwS g) n (zIt (zRm n g) n (zSt (zIt (zJmS n) n (zAm2 n g (zEm n g τ))) 11 12 0)))) 11 12))) 11 10 (((zIt (zDdS g) n (zIt (zOwS g) n (zIt (zRm n g) n (zSt (zIt (zJmS n) n (zAm2 n g (zEm n g τ))) 11 12 0)))) 11 10) + 1))) (z_mg G ad Y n g (zSt (zIt (zDdS g) n (zIt (zOwS g) n (zIt (zRm n g) n (zSt (zIt (zJmS n) n (zAm2 n g (zEm n g τ))) 11 12 0)))) 11 13 (((zIt (zDdS g) n (zIt (zOwS g) n (zIt (zRm n g) n (zSt (zIt (zJmS n) n (zAm2 n g (zEm n g τ))) 11 12 0)))) 11 13) + ((zIt (zDdS g) n (zIt (zOwS g) n (zIt (zRm n g) n (zSt (zIt (zJmS n) n (zAm2 n g (zEm n g τ))) 11 12 0)))) 11 12))) (by decide) (by decide) (((zIt (zDdS g) n (zIt (zOwS g) n (zIt (zRm n g) n (zSt (zIt (zJmS n) n (zAm2 n g (zEm n g τ))) 11 12 0)))) 11 10) + 1)) dX5_perform_88 (fun H locs hM hS => ?_)
      exact z_vret hx hb hr hlk hK hS (hM.cast rfl rfl rfl (by first | with_reducible rfl | (simp only [zMd, zM2, zR3, zDv, c_1, c_3, eq_self, ne_eq, not_true_eq_false, not_false_eq_true, and_true, true_and, and_self, and_false, false_and, true_or, or_true, false_or, or_false, reduceIte]; done) | (simp [zMd, zM2, zR3, zDv, c_1, c_3]; done) | rfl | (simp_all [zMd, zM2, zR3, zDv]; done))) dX5_perform_89
    · skip
      refine lv_aload_n hx hb dX5_perform_50 rfl (lv_at hl 0 rfl) ?_
      refine z_vv (As := []) (rest := []) (P2 := zMP G ad Y n g (zRl n g (zIt (zOwS g) n (zIt (zRm n g) n (zSt (zIt (zJmS n) n (zAm2 n g (zEm n g τ))) 11 12 0))))) S (c_X5_deliverByRelay l G A ad Y n g hA hn12 hd5 (zIt (zOwS g) n (zIt (zRm n g) n (zSt (zIt (zJmS n) n (zAm2 n g (zEm n g τ))) 11 12 0))) ) (cwV 0 hts gX5_perform_X5_deliverByRelay rfl rfl rfl (by decide +kernel) ⟨Nat.le_of_ble_eq_true rfl, Nat.le_of_ble_eq_true rfl⟩) (z_recM hK hM) hM hK hS (fun _ _ h => h) (fun _ h => h) hl.1 rfl rfl (Nat.le_of_ble_eq_true rfl) dX5_perform_51 ⟨Nat.le_refl _, Nat.le_refl _⟩ (fun H locs hM hS _ => ?_)
      refine lv_goto (tgt := 61) hx hb dX5_perform_54 (by decide) ?_
      refine lv_aload_n hx hb dX5_perform_61 rfl (lv_at hl 0 rfl) ?_
      refine z_getM (v := .ref (ad 1)) hx hb hts hown in_X5_perform_X5 hK hM 1 (by decide) rfl (hts _ (List.mem_of_getElem? (i := 1) (by decide +kernel))) rfl dX5_perform_62 ?_
      refine lv_bipush (v := 13) hx hb dX5_perform_65 (by decide) ?_
      refine lv_dup2_11 hx hb dX5_perform_67 rfl rfl ?_
      refine z_ldM (w := (zRl n g (zIt (zOwS g) n (zIt (zRm n g) n (zSt (zIt (zJmS n) n (zAm2 n g (zEm n g τ))) 11 12 0)))) 11 13) hx hb hK hM 1 rfl 13 (by decide) (by decide) (by decide) rfl dX5_perform_68 ?_
      refine lv_aload_n hx hb dX5_perform_69 rfl (lv_at hl 0 rfl) ?_
      refine z_getM (v := .ref (ad 1)) hx hb hts hown in_X5_perform_X5 hK hM 1 (by decide) rfl (hts _ (List.mem_of_getElem? (i := 1) (by decide +kernel))) rfl dX5_perform_70 ?_
      refine lv_bipush (v := 12) hx hb dX5_perform_73 (by decide) ?_
      refine z_ldM (w := (zRl n g (zIt (zOwS g) n (zIt (zRm n g) n (zSt (zIt (zJmS n) n (zAm2 n g (zEm n g τ))) 11 12 0)))) 11 12) hx hb hK hM 1 rfl 12 (by decide) (by decide) (by decide) rfl dX5_perform_75 ?_
      refine lv_iadd hx hb dX5_perform_76 ?_
      refine z_stM (w := ((zRl n g (zIt (zOwS g) n (zIt (zRm n g) n (zSt (zIt (zJmS n) n (zAm2 n g (zEm n g τ))) 11 12 0)))) 11 13) + ((zRl n g (zIt (zOwS g) n (zIt (zRm n g) n (zSt (zIt (zJmS n) n (zAm2 n g (zEm n g τ))) 11 12 0)))) 11 12)) hx hb hK hA hS hM 1 rfl 13 (by decide) (by decide) (by decide) (zMP G ad Y n g (zSt (zRl n g (zIt (zOwS g) n (zIt (zRm n g) n (zSt (zIt (zJmS n) n (zAm2 n g (zEm n g τ))) 11 12 0)))) 11 13 (((zRl n g (zIt (zOwS g) n (zIt (zRm n g) n (zSt (zIt (zJmS n) n (zAm2 n g (zEm n g τ))) 11 12 0)))) 11 13) + ((zRl n g (zIt (zOwS g) n (zIt (zRm n g) n (zSt (zIt (zJmS n) n (zAm2 n g (zEm n g τ))) 11 12 0)))) 11 12)))) (z_mg G ad Y n g (zRl n g (zIt (zOwS g) n (zIt (zRm n g) n (zSt (zIt (zJmS n) n (zAm2 n g (zEm n g τ))) 11 12 0)))) (by decide) (by decide) (((zRl n g (zIt (zOwS g) n (zIt (zRm n g) n (zSt (zIt (zJmS n) n (zAm2 n g (zEm n g τ))) 11 12 0)))) 11 13) + ((zRl n g (zIt (zOwS g) n (zIt (zRm n g) n (zSt (zIt (zJmS n) n (zAm2 n g (zEm n g τ))) 11 12 0)))) 11 12))) dX5_perform_77 (fun H locs hM hS => ?_)
      refine lv_aload_n hx hb dX5_perform_78 rfl (lv_at hl 0 rfl) ?_
      refine z_getM (v := .ref (ad 1)) hx hb hts hown in_X5_perform_X5 hK hM 1 (by decide) rfl (hts _ (List.mem_of_getElem? (i := 1) (by decide +kernel))) rfl dX5_perform_79 ?_
      refine lv_bipush (v := 10) hx hb dX5_perform_82 (by decide) ?_
      refine lv_dup2_11 hx hb dX5_perform_84 rfl rfl ?_
      refine z_ldM (w := (zRl n g (zIt (zOwS g) n (zIt (zRm n g) n (zSt (zIt (zJmS n) n (zAm2 n g (zEm n g τ))) 11 12 0)))) 11 10) hx hb hK hM 1 rfl 10 (by decide) (by decide) (by decide) rfl dX5_perform_85 ?_
      refine lv_iconst (v := 1) hx hb dX5_perform_86 (by decide) ?_
      refine lv_iadd hx hb dX5_perform_87 ?_
      refine z_stM (w := ((zRl n g (zIt (zOwS g) n (zIt (zRm n g) n (zSt (zIt (zJmS n) n (zAm2 n g (zEm n g τ))) 11 12 0)))) 11 10) + 1) hx hb hK hA hS hM 1 rfl 10 (by decide) (by decide) (by decide) (zMP G ad Y n g (zSt (zSt (zRl n g (zIt (zOwS g) n (zIt (zRm n g) n (zSt (zIt (zJmS n) n (zAm2 n g (zEm n g τ))) 11 12 0)))) 11 13 (((zRl n g (zIt (zOwS g) n (zIt (zRm n g) n (zSt (zIt (zJmS n) n (zAm2 n g (zEm n g τ))) 11 12 0)))) 11 13) + ((zRl n g (zIt (zOwS g) n (zIt (zRm n g) n (zSt (zIt (zJmS n) n (zAm2 n g (zEm n g τ))) 11 12 0)))) 11 12))) 11 10 (((zRl n g (zIt (zOwS g) n (zIt (zRm n g) n (zSt (zIt (zJmS n) n (zAm2 n g (zEm n g τ))) 11 12 0)))) 11 10) + 1))) (z_mg G ad Y n g (zSt (zRl n g (zIt (zOwS g) n (zIt (zRm n g) n (zSt (zIt (zJmS n) n (zAm2 n g (zEm n g τ))) 11 12 0)))) 11 13 (((zRl n g (zIt (zOwS g) n (zIt (zRm n g) n (zSt (zIt (zJmS n) n (zAm2 n g (zEm n g τ))) 11 12 0)))) 11 13) + ((zRl n g (zIt (zOwS g) n (zIt (zRm n g) n (zSt (zIt (zJmS n) n (zAm2 n g (zEm n g τ))) 11 12 0)))) 11 12))) (by decide) (by decide) (((zRl n g (zIt (zOwS g) n (zIt (zRm n g) n (zSt (zIt (zJmS n) n (zAm2 n g (zEm n g τ))) 11 12 0)))) 11 10) + 1)) dX5_perform_88 (fun H locs hM hS => ?_)
      exact z_vret hx hb hr hlk hK hS (hM.cast rfl rfl rfl (by first | with_reducible rfl | (simp only [zMd, zM2, zR3, zDv, c_1, c_4, eq_self, ne_eq, not_true_eq_false, not_false_eq_true, and_true, true_and, and_self, and_false, false_and, true_or, or_true, false_or, or_false, reduceIte]; done) | (simp [zMd, zM2, zR3, zDv, c_1, c_4]; done) | rfl | (simp_all [zMd, zM2, zR3, zDv]; done))) dX5_perform_89
  · skip
    refine lv_aload_n hx hb dX5_perform_30 rfl (lv_at hl 0 rfl) ?_
    refine z_vv (As := []) (rest := []) (P2 := zMP G ad Y n g (zIt (zAlS g) n (zSt (zIt (zJmS n) n (zAm2 n g (zEm n g τ))) 11 12 0))) S (c_X5_deliverAlone l G A ad Y n g hA hn12 hd5 (zSt (zIt (zJmS n) n (zAm2 n g (zEm n g τ))) 11 12 0) ) (cwV 0 hts gX5_perform_X5_deliverAlone rfl rfl rfl (by decide +kernel) ⟨Nat.le_of_ble_eq_true rfl, Nat.le_of_ble_eq_true rfl⟩) (z_recM hK hM) hM hK hS (fun _ _ h => h) (fun _ h => h) hl.1 rfl rfl (Nat.le_of_ble_eq_true rfl) dX5_perform_31 ⟨Nat.le_refl _, Nat.le_refl _⟩ (fun H locs hM hS _ => ?_)
    refine lv_goto (tgt := 61) hx hb dX5_perform_34 (by decide) ?_
    refine lv_aload_n hx hb dX5_perform_61 rfl (lv_at hl 0 rfl) ?_
    refine z_getM (v := .ref (ad 1)) hx hb hts hown in_X5_perform_X5 hK hM 1 (by decide) rfl (hts _ (List.mem_of_getElem? (i := 1) (by decide +kernel))) rfl dX5_perform_62 ?_
    refine lv_bipush (v := 13) hx hb dX5_perform_65 (by decide) ?_
    refine lv_dup2_11 hx hb dX5_perform_67 rfl rfl ?_
    refine z_ldM (w := (zIt (zAlS g) n (zSt (zIt (zJmS n) n (zAm2 n g (zEm n g τ))) 11 12 0)) 11 13) hx hb hK hM 1 rfl 13 (by decide) (by decide) (by decide) rfl dX5_perform_68 ?_
    refine lv_aload_n hx hb dX5_perform_69 rfl (lv_at hl 0 rfl) ?_
    refine z_getM (v := .ref (ad 1)) hx hb hts hown in_X5_perform_X5 hK hM 1 (by decide) rfl (hts _ (List.mem_of_getElem? (i := 1) (by decide +kernel))) rfl dX5_perform_70 ?_
    refine lv_bipush (v := 12) hx hb dX5_perform_73 (by decide) ?_
    refine z_ldM (w := (zIt (zAlS g) n (zSt (zIt (zJmS n) n (zAm2 n g (zEm n g τ))) 11 12 0)) 11 12) hx hb hK hM 1 rfl 12 (by decide) (by decide) (by decide) rfl dX5_perform_75 ?_
    refine lv_iadd hx hb dX5_perform_76 ?_
    refine z_stM (w := ((zIt (zAlS g) n (zSt (zIt (zJmS n) n (zAm2 n g (zEm n g τ))) 11 12 0)) 11 13) + ((zIt (zAlS g) n (zSt (zIt (zJmS n) n (zAm2 n g (zEm n g τ))) 11 12 0)) 11 12)) hx hb hK hA hS hM 1 rfl 13 (by decide) (by decide) (by decide) (zMP G ad Y n g (zSt (zIt (zAlS g) n (zSt (zIt (zJmS n) n (zAm2 n g (zEm n g τ))) 11 12 0)) 11 13 (((zIt (zAlS g) n (zSt (zIt (zJmS n) n (zAm2 n g (zEm n g τ))) 11 12 0)) 11 13) + ((zIt (zAlS g) n (zSt (zIt (zJmS n) n (zAm2 n g (zEm n g τ))) 11 12 0)) 11 12)))) (z_mg G ad Y n g (zIt (zAlS g) n (zSt (zIt (zJmS n) n (zAm2 n g (zEm n g τ))) 11 12 0)) (by decide) (by decide) (((zIt (zAlS g) n (zSt (zIt (zJmS n) n (zAm2 n g (zEm n g τ))) 11 12 0)) 11 13) + ((zIt (zAlS g) n (zSt (zIt (zJmS n) n (zAm2 n g (zEm n g τ))) 11 12 0)) 11 12))) dX5_perform_77 (fun H locs hM hS => ?_)
    refine lv_aload_n hx hb dX5_perform_78 rfl (lv_at hl 0 rfl) ?_
    refine z_getM (v := .ref (ad 1)) hx hb hts hown in_X5_perform_X5 hK hM 1 (by decide) rfl (hts _ (List.mem_of_getElem? (i := 1) (by decide +kernel))) rfl dX5_perform_79 ?_
    refine lv_bipush (v := 10) hx hb dX5_perform_82 (by decide) ?_
    refine lv_dup2_11 hx hb dX5_perform_84 rfl rfl ?_
    refine z_ldM (w := (zIt (zAlS g) n (zSt (zIt (zJmS n) n (zAm2 n g (zEm n g τ))) 11 12 0)) 11 10) hx hb hK hM 1 rfl 10 (by decide) (by decide) (by decide) rfl dX5_perform_85 ?_
    refine lv_iconst (v := 1) hx hb dX5_perform_86 (by decide) ?_
    refine lv_iadd hx hb dX5_perform_87 ?_
    refine z_stM (w := ((zIt (zAlS g) n (zSt (zIt (zJmS n) n (zAm2 n g (zEm n g τ))) 11 12 0)) 11 10) + 1) hx hb hK hA hS hM 1 rfl 10 (by decide) (by decide) (by decide) (zMP G ad Y n g (zSt (zSt (zIt (zAlS g) n (zSt (zIt (zJmS n) n (zAm2 n g (zEm n g τ))) 11 12 0)) 11 13 (((zIt (zAlS g) n (zSt (zIt (zJmS n) n (zAm2 n g (zEm n g τ))) 11 12 0)) 11 13) + ((zIt (zAlS g) n (zSt (zIt (zJmS n) n (zAm2 n g (zEm n g τ))) 11 12 0)) 11 12))) 11 10 (((zIt (zAlS g) n (zSt (zIt (zJmS n) n (zAm2 n g (zEm n g τ))) 11 12 0)) 11 10) + 1))) (z_mg G ad Y n g (zSt (zIt (zAlS g) n (zSt (zIt (zJmS n) n (zAm2 n g (zEm n g τ))) 11 12 0)) 11 13 (((zIt (zAlS g) n (zSt (zIt (zJmS n) n (zAm2 n g (zEm n g τ))) 11 12 0)) 11 13) + ((zIt (zAlS g) n (zSt (zIt (zJmS n) n (zAm2 n g (zEm n g τ))) 11 12 0)) 11 12))) (by decide) (by decide) (((zIt (zAlS g) n (zSt (zIt (zJmS n) n (zAm2 n g (zEm n g τ))) 11 12 0)) 11 10) + 1)) dX5_perform_88 (fun H locs hM hS => ?_)
    exact z_vret hx hb hr hlk hK hS (hM.cast rfl rfl rfl (by first | with_reducible rfl | (simp only [zMd, zM2, zR3, zDv, c_2, eq_self, ne_eq, not_true_eq_false, not_false_eq_true, and_true, true_and, and_self, and_false, false_and, true_or, or_true, false_or, or_false, reduceIte]; done) | (simp [zMd, zM2, zR3, zDv, c_2]; done) | rfl | (simp_all [zMd, zM2, zR3, zDv]; done))) dX5_perform_89

theorem in_X5_alive_X5 : ∀ w ∈ wsX50, w ∈ wsX5_alive := by decide +kernel
set_option maxHeartbeats 4000000 in
set_option maxRecDepth 100000 in
theorem c_X5_alive (l : Launch) (G : zG) (A : Nat → Prop) (ad : Nat → Nat) (Y : zY) (n : Nat) (g : Nat → Int32) (hA : zAm G ad A) (hn12 : n ≤ 12) (τ : zT) : zMi l G A yX5_alive wsX5_alive 1 22 [.ref (ad 0)] (zMP G ad Y n g τ) (zLv n τ) (zMP G ad Y n g τ) := by
  refine z_met (cc := cX5_alive) (maxL := 3) (ret := (some .int)) (by decide) rfl (Nat.le_of_ble_eq_true rfl) ?_
  intro p e s m below meth c ls S hr hlk hnm hM hK hl
  have S : CallFix p m c cX5_alive 3 s _ wsX5_alive RX5 := S
  obtain ⟨hx, hb, hml, hown, hts⟩ := id S
  have hS : va_S A s.heap s.heap [] := va_S.rf
  have hl : lv_has ls 3 [(0, .ref (ad 0))] := hl
  refine lv_iconst (v := 0) hx hb dX5_alive_0 (by decide) ?_
  refine lv_istore_n (lv' := [(1, .int 0), (0, .ref (ad 0))]) hx hb dX5_alive_1 rfl hl (by decide) rfl (fun ls hl => ?_)
  refine lv_iconst (v := 0) hx hb dX5_alive_2 (by decide) ?_
  refine lv_istore_n (lv' := [(2, .int 0), (1, .int 0), (0, .ref (ad 0))]) hx hb dX5_alive_3 rfl hl (by decide) rfl (fun ls hl => ?_)
  have loop1 : ∀ (f1 k : Nat) (H : Heap) (locs : List Loc) (ls : Array Slot), k ≤ n → n < k + f1 → zMP G ad Y n g τ H → va_S A s.heap H locs → lv_has ls 3 [(2, .int (nI k)), (1, .int (zIt (zLvS τ) k (0 : Int32))), (0, .ref (ad 0))] → W p l e ({ frames := 1, cells := 0, slots := 0, locals := 22 } : Room) s m ([.ref (ad 0)] : List Value).toArray below meth c H locs 0 0 (MQ below (zQi G (zLv n τ) (zMP G ad Y n g τ) A) ([.ref (ad 0)] : List Value).toArray s 0 0 A) (F0 m 4 ls []) := by
    intro f1
    induction f1 with
    | zero => intro k H locs ls h1 h2; exact absurd h2 (by omega)
    | succ f1 ih1 =>
      intro k H locs ls hk1 hf1 hM hS hl
      generalize hF_v : zIt (zLvS τ) k (0 : Int32) = v at hM hl 
      refine lv_iload_n hx hb dX5_alive_4 rfl (lv_at hl 0 rfl) ?_
      refine lv_aload_n hx hb dX5_alive_5 rfl (lv_at hl 2 rfl) ?_
      refine z_getM (v := .ref (ad 1)) hx hb hts hown in_X5_alive_X5 hK hM 1 (by decide) rfl (hts _ (List.mem_of_getElem? (i := 1) (by decide +kernel))) rfl dX5_alive_6 ?_
      refine lv_iconst (v := 0) hx hb dX5_alive_9 (by decide) ?_
      refine z_ldM (w := nI n) hx hb hK hM 1 rfl 0 (by decide) (by decide) (by decide) rfl dX5_alive_10 ?_
      refine lv_icmp_ge (tgt := 29) hx hb dX5_alive_11 (by decide) (fun c_1 => ?_) (fun c_2 => ?_)
      · skip
        have c_1 := (z_leI (a := n) (b := k) (by omega) (by omega)).mp c_1
        have hkn1 : k = n := by omega
        rw [hkn1] at hF_v
        subst hF_v
        refine lv_iload_n hx hb dX5_alive_29 rfl (lv_at hl 1 rfl) ?_
        refine z_top (x2 := zLv n τ) (by first | with_reducible rfl | (simp only [zLv, c_1, eq_self, ne_eq, not_true_eq_false, not_false_eq_true, and_true, true_and, and_self, and_false, false_and, true_or, or_true, false_or, or_false, reduceIte]; done) | (simp [zLv, c_1]; done) | rfl | (simp_all [zLv]; done)) ?_
        exact z_iret hx hb hr hlk hK hS (hM) dX5_alive_30
      · skip
        have c_2 := (not_congr (z_leI (a := n) (b := k) (by omega) (by omega))).mp c_2
        refine lv_iload_n hx hb dX5_alive_14 rfl (lv_at hl 1 rfl) ?_
        refine lv_aload_n hx hb dX5_alive_15 rfl (lv_at hl 2 rfl) ?_
        refine lv_iload_n hx hb dX5_alive_16 rfl (lv_at hl 0 rfl) ?_
        refine lv_iconst (v := 3) hx hb dX5_alive_17 (by decide) ?_
        refine z_vi (As := [.int (nI k), .int 3]) (rest := [.int v]) (P2 := zMP G ad Y n g τ) (r := τ 3 k) S (c_X5_of l G A ad Y n g hA hn12  τ k 3 (by omega) (by omega)) (cwV 2 hts gX5_alive_X5_of rfl rfl rfl (by decide +kernel) ⟨Nat.le_of_ble_eq_true rfl, Nat.le_of_ble_eq_true rfl⟩) (z_recM hK hM) hM hK hS (fun _ _ h => h) (fun _ h => h) hl.1 rfl rfl (Nat.le_of_ble_eq_true rfl) dX5_alive_18 ⟨Nat.le_refl _, Nat.le_refl _⟩ (fun H locs hM hS _ => ?_)
        refine lv_iadd hx hb dX5_alive_21 ?_
        refine lv_istore_n (lv' := [(1, .int (v + (τ 3 k))), (2, .int (nI k)), (0, .ref (ad 0))]) hx hb dX5_alive_22 rfl hl (by decide) rfl (fun ls hl => ?_)
        refine lv_iinc (v := nI (k + 1)) (lv' := [(2, .int (nI (k + 1))), (1, .int (v + (τ 3 k))), (0, .ref (ad 0))]) hx hb dX5_alive_23 hl (k := 1) rfl (nI_1 _) (by decide) rfl (fun ls hl => ?_)
        refine lv_goto (tgt := 4) hx hb dX5_alive_26 (by decide) ?_
        have e_3 : zIt (zLvS τ) (k + 1) (0 : Int32) = v + (τ 3 k) := by
          rw [zIt_s, hF_v]
          first | with_reducible rfl | (simp only [zLvS, c_2, eq_self, ne_eq, not_true_eq_false, not_false_eq_true, and_true, true_and, and_self, and_false, false_and, true_or, or_true, false_or, or_false, reduceIte]; done) | (simp [zLvS, c_2]; done) | rfl | (simp_all [zLvS]; done)
        refine ih1 (k + 1) _ _ _ (by omega) (by omega) ?_ hS ?_
        · first | exact hM | (rw [e_3]; exact hM)
        · first | exact lv_sub hl [0, 1, 2] rfl | (rw [e_3]; exact lv_sub hl [0, 1, 2] rfl)
  exact loop1 (n + 1) 0 _ _ _ (by omega) (by omega) hM hS (lv_sub hl [0, 1, 2] rfl)
