/-! rows laid by my own program (wip/whole/gen) -/
theorem in_X4_forecastDeath_X1 : ∀ w ∈ wsX10, w ∈ wsX4_forecastDeath := by decide +kernel
theorem in_X4_forecastDeath_X3 : ∀ w ∈ wsX30, w ∈ wsX4_forecastDeath := by decide +kernel
theorem in_X4_forecastDeath_X4 : ∀ w ∈ wsX40, w ∈ wsX4_forecastDeath := by decide +kernel
set_option maxHeartbeats 4000000 in
set_option maxRecDepth 100000 in
theorem p_X4_forecastDeath (l : Launch) (G : zG) (ad : Nat → Nat) (na : Nat → Nat → Nat) (ma : Nat → Nat) (hd : zTd ad na ma) (π : Nat → Nat) (hπ : zPi π) (d : Nat) (hd6 : d ≤ 6) (fl : Nat → Int32) (T : Nat → zS3) (n : Nat) (hn12 : n ≤ 12) (g : Nat → Int32) (τ : zT) (hd3 : 0 < g 3) (hd5 : 0 < g 5) (τa : zT) (hr0 : zRp n τa τ) (hg0 : 0 ≤ τa 11 9) (x r : Int32) : zMi l G (zAll ad na ma) yX4_forecastDeath wsX4_forecastDeath 6 136 [.ref (ma 0), .int x, .int r] (zNA G ad n 12 g (zRest G ad na ma π d fl T) τ) (if ¬ ((¬ x < 0 ∧ x < nI n) ∧ (¬ r < 1 ∧ ¬ 300 < r)) then -1 else (if ¬ τ 3 x.toNatClampNeg = 1 then -2 else (zPf n g r.toNatClampNeg τa).2 6 x.toNatClampNeg)) (if ¬ ((¬ x < 0 ∧ x < nI n) ∧ (¬ r < 1 ∧ ¬ 300 < r)) then (zNA G ad n 12 g (zRest G ad na ma π d fl T) τ) else (if ¬ τ 3 x.toNatClampNeg = 1 then (zNA G ad n 12 g (zRest G ad na ma π d fl T) τ) else (fun H => ∃ τ2, zRp n (zPf n g r.toNatClampNeg τa).2 τ2 ∧ zNA G ad n 12 g (zRest G ad na ma π d fl (va_up T 1 (n, g, τ2))) τ H))) := by
  refine z_met (cc := cX4_forecastDeath) (maxL := 3) (ret := (some .int)) (by decide) rfl (Nat.le_of_ble_eq_true rfl) ?_
  intro p e s m below meth c ls S hr hlk hnm hN hK hl
  have S : CallFix p m c cX4_forecastDeath 3 s _ wsX4_forecastDeath RX4 := S
  obtain ⟨hx, hb, hml, hown, hts⟩ := id S
  have hN12 : 12 ≤ 12 := Nat.le_refl 12
  have hA := zAp_top (G := G) hd π d fl T
  have hS : va_S (zAll ad na ma) s.heap s.heap [] := va_S.rf
  have hl : lv_has ls 3 [(0, .ref (ma 0)), (1, .int x), (2, .int r)] := hl
  refine lv_aload_n hx hb dX4_forecastDeath_0 rfl (lv_at hl 0 rfl) ?_
  refine z_getF (v := .ref (ad 0)) hx hb hts hown in_X4_forecastDeath_X4 hK hN 0 (by decide) rfl (hts _ (List.mem_of_getElem? (i := 1) (by decide +kernel))) rfl dX4_forecastDeath_1 ?_
  refine lv_iload_n hx hb dX4_forecastDeath_4 rfl (lv_at hl 1 rfl) ?_
  refine z_vi (As := [.int x]) (rest := []) (P2 := zNA G ad n 12 g (zRest G ad na ma π d fl T) τ) (r := zBi (¬ x < 0 ∧ x < nI n)) S (c_X1_has l G (zAll ad na ma) ad n 12 g (zRest G ad na ma π d fl T) hA (by omega) hN12  τ x) (cwV 1 hts gX4_forecastDeath_X1_has rfl rfl rfl (by decide +kernel) ⟨Nat.le_of_ble_eq_true rfl, Nat.le_of_ble_eq_true rfl⟩) (z_recN hK hN) hN hK hS (fun _ _ h => h) (fun _ h => h) hl.1 rfl rfl (Nat.le_of_ble_eq_true rfl) dX4_forecastDeath_5 ⟨Nat.le_refl _, Nat.le_refl _⟩ (fun H locs hN hS _ => ?_)
  refine lv_if_eq (tgt := 22) hx hb dX4_forecastDeath_8 (by decide) (fun c_1 => ?_) (fun c_2 => ?_)
  · skip
    have c_1 := zBi_0.mp c_1
    refine lv_iconst (v := -1) hx hb dX4_forecastDeath_22 (by decide) ?_
    exact z_iretE hx hb hr hlk hK hS (zIr_t (by first | assumption | (simp only [c_1, eq_self, ne_eq, not_true_eq_false, not_false_eq_true, and_true, true_and, and_self, and_false, false_and, true_or, or_true, false_or, or_false, reduceIte]; done) | (simp [c_1]; done) | grind) (by first | rfl | (simp only [c_1, eq_self, ne_eq, not_true_eq_false, not_false_eq_true, and_true, true_and, and_self, and_false, false_and, true_or, or_true, false_or, or_false, reduceIte]; done) | (simp [c_1]; done))) (zIf_t (by first | assumption | (simp only [c_1, eq_self, ne_eq, not_true_eq_false, not_false_eq_true, and_true, true_and, and_self, and_false, false_and, true_or, or_true, false_or, or_false, reduceIte]; done) | (simp [c_1]; done) | grind) (by first | exact hN | (simpa only [c_1, eq_self, ne_eq, not_true_eq_false, not_false_eq_true, and_true, true_and, and_self, and_false, false_and, true_or, or_true, false_or, or_false, reduceIte] using hN) | (simpa [c_1] using hN))) dX4_forecastDeath_23
  · skip
    have c_2 := zBi_n0.mp c_2
    obtain ⟨k, hk, rfl⟩ := zIn_of (by omega) c_2
    have hc_k : (nI k).toNatClampNeg = k := nI_clamp (by omega)
    refine lv_iload_n hx hb dX4_forecastDeath_11 rfl (lv_at hl 2 rfl) ?_
    refine lv_iconst (v := 1) hx hb dX4_forecastDeath_12 (by decide) ?_
    refine lv_sipush (v := 300) hx hb dX4_forecastDeath_13 (by decide) ?_
    refine z_si (As := [.int r, .int 1, .int 300]) (rest := []) (P2 := zNA G ad n 12 g (zRest G ad na ma π d fl T) τ) (r := zBi (¬ r < 1 ∧ ¬ 300 < r)) S (c_X4_inRange l G (zAll ad na ma) (zNA G ad n 12 g (zRest G ad na ma π d fl T) τ) r 1 300) (cwS 3 hts gX4_forecastDeath_X4_inRange rfl rfl rfl (by decide +kernel) ⟨Nat.le_of_ble_eq_true rfl, Nat.le_of_ble_eq_true rfl⟩) hN hK hS (fun _ _ h => h) (fun _ h => h) hl.1 rfl rfl (Nat.le_of_ble_eq_true rfl) dX4_forecastDeath_16 ⟨Nat.le_refl _, Nat.le_refl _⟩ (fun H locs hN hS _ => ?_)
    refine lv_if_ne (tgt := 24) hx hb dX4_forecastDeath_19 (by decide) (fun c_3 => ?_) (fun c_4 => ?_)
    · skip
      have c_3 := zBi_n0.mp c_3
      obtain ⟨lim, hlim1, hlim2, rfl⟩ := zLe_of (a := 1) (b := 300) (by omega) (by omega) c_3
      have hc_lim : (nI lim).toNatClampNeg = lim := nI_clamp (by omega)
      refine lv_aload_n hx hb dX4_forecastDeath_24 rfl (lv_at hl 0 rfl) ?_
      refine z_getF (v := .ref (ad 0)) hx hb hts hown in_X4_forecastDeath_X4 hK hN 0 (by decide) rfl (hts _ (List.mem_of_getElem? (i := 1) (by decide +kernel))) rfl dX4_forecastDeath_25 ?_
      refine z_getO (v := .ref (ad 1)) hx hb hts hown in_X4_forecastDeath_X1 hK hN 0 (by decide) rfl (hts _ (List.mem_of_getElem? (i := 2) (by decide +kernel))) rfl dX4_forecastDeath_28 ?_
      refine lv_iload_n hx hb dX4_forecastDeath_31 rfl (lv_at hl 1 rfl) ?_
      refine z_aald (i := k) hx hb hK hN rfl (by omega) dX4_forecastDeath_32 ?_
      refine z_getS (v := .int (zBi (τ 3 k = 1))) hx hb hts hown in_X4_forecastDeath_X3 hK hN12 hN (by omega) 3 (by decide) rfl (hts _ (List.mem_of_getElem? (i := 3) (by decide +kernel))) rfl dX4_forecastDeath_33 ?_
      refine lv_if_ne (tgt := 42) hx hb dX4_forecastDeath_36 (by decide) (fun c_5 => ?_) (fun c_6 => ?_)
      · skip
        have c_5 := zBi_n0.mp c_5
        refine lv_aload_n hx hb dX4_forecastDeath_42 rfl (lv_at hl 0 rfl) ?_
        refine z_getF (v := .ref (na 1 0)) hx hb hts hown in_X4_forecastDeath_X4 hK hN 2 (by decide) rfl (hts _ (List.mem_of_getElem? (i := 4) (by decide +kernel))) rfl dX4_forecastDeath_43 ?_
        refine lv_aload_n hx hb dX4_forecastDeath_46 rfl (lv_at hl 0 rfl) ?_
        refine z_getF (v := .ref (ad 0)) hx hb hts hown in_X4_forecastDeath_X4 hK hN 0 (by decide) rfl (hts _ (List.mem_of_getElem? (i := 1) (by decide +kernel))) rfl dX4_forecastDeath_47 ?_
        refine z_vv (As := [.ref (ad 0)]) (rest := []) (P2 := zNA G ad n 12 g (zRest G ad na ma π d fl (va_up T 1 (zCpy n g τ (T 1)))) τ) S (t_copy_j hd π d fl T n hn12 g τ (by decide) (by decide)) (cwV 1 hts gX4_forecastDeath_X1_copyFrom rfl rfl rfl (by decide +kernel) ⟨Nat.le_of_ble_eq_true rfl, Nat.le_of_ble_eq_true rfl⟩) (z_recJ hK hN (by decide) (by decide)) hN hK hS (fun _ _ h => h) (fun _ h => h) hl.1 rfl rfl (Nat.le_of_ble_eq_true rfl) dX4_forecastDeath_50 ⟨Nat.le_refl _, Nat.le_refl _⟩ (fun H locs hN hS _ => ?_)
        have hA := zAp_top (G := G) hd π d fl (va_up T 1 (zCpy n g τ (T 1)))
        refine lv_aload_n hx hb dX4_forecastDeath_53 rfl (lv_at hl 0 rfl) ?_
        refine z_getF (v := .ref (ma 2)) hx hb hts hown in_X4_forecastDeath_X4 hK hN 3 (by decide) rfl (hts _ (List.mem_of_getElem? (i := 5) (by decide +kernel))) rfl dX4_forecastDeath_54 ?_
        refine lv_iload_n hx hb dX4_forecastDeath_57 rfl (lv_at hl 2 rfl) ?_
        refine z_vi (As := [.int (nI lim)]) (rest := []) (P2 := (fun H => ∃ τ2, zRp n (zPf n g lim τa).2 τ2 ∧ zNA G ad n 12 g (zRest G ad na ma π d fl (va_up T 1 (n, g, τ2))) τ H)) (r := nI (zPf n g lim τa).1) S (t_perf_1 hd π d fl T n g τ n hn12 g hd3 hd5 (zCpy n g τ (T 1)).2.2 τa (hr0.cpy _) hg0 lim (by omega)) (cwV 1 hts gX4_forecastDeath_X2_perform rfl rfl rfl (by decide +kernel) ⟨Nat.le_of_ble_eq_true rfl, Nat.le_of_ble_eq_true rfl⟩) (z_recP2 hK hN) hN hK hS (fun _ _ h => h) (fun _ h => h) hl.1 rfl rfl (Nat.le_of_ble_eq_true rfl) dX4_forecastDeath_58 ⟨Nat.le_refl _, Nat.le_refl _⟩ (fun H locs hN hS _ => ?_)
        obtain ⟨τ2, hr2, hN⟩ := hN
        have hNj : zNA G (na 1) n 12 g [] τ2 H := by have h := zRest.net hN (j := 1) (by decide) (by decide); rwa [va_up_self] at h
        have hA := zAp_top (G := G) hd π d fl (va_up T 1 (n, g, τ2))
        refine lv_pop hx hb dX4_forecastDeath_61 rfl ?_
        refine lv_aload_n hx hb dX4_forecastDeath_62 rfl (lv_at hl 0 rfl) ?_
        refine z_getF (v := .ref (na 1 0)) hx hb hts hown in_X4_forecastDeath_X4 hK hN 2 (by decide) rfl (hts _ (List.mem_of_getElem? (i := 4) (by decide +kernel))) rfl dX4_forecastDeath_63 ?_
        refine z_getO (v := .ref (na 1 1)) hx hb hts hown in_X4_forecastDeath_X1 hK hNj 0 (by decide) rfl (hts _ (List.mem_of_getElem? (i := 2) (by decide +kernel))) rfl dX4_forecastDeath_66 ?_
        refine lv_iload_n hx hb dX4_forecastDeath_69 rfl (lv_at hl 1 rfl) ?_
        refine z_aald (i := k) hx hb hK hNj rfl (by omega) dX4_forecastDeath_70 ?_
        refine z_getS (v := .int (τ2 6 k)) hx hb hts hown in_X4_forecastDeath_X3 hK (Nat.le_refl 12) hNj (by omega) 6 (by decide) rfl (hts _ (List.mem_of_getElem? (i := 6) (by decide +kernel))) rfl dX4_forecastDeath_71 ?_
        exact z_iretE hx hb hr hlk hK hS (zIr_n (by first | assumption | (simp only [c_2, hc_k, c_3, hc_lim, c_5, eq_self, ne_eq, not_true_eq_false, not_false_eq_true, and_true, true_and, and_self, and_false, false_and, true_or, or_true, false_or, or_false, reduceIte]; done) | (simp [c_2, hc_k, c_3, hc_lim, c_5]; done) | grind) (zIr_n (by first | assumption | (simp only [c_2, hc_k, c_3, hc_lim, c_5, eq_self, ne_eq, not_true_eq_false, not_false_eq_true, and_true, true_and, and_self, and_false, false_and, true_or, or_true, false_or, or_false, reduceIte]; done) | (simp [c_2, hc_k, c_3, hc_lim, c_5]; done) | grind) (by first | rfl | (simp only [c_2, hc_k, c_3, hc_lim, c_5, eq_self, ne_eq, not_true_eq_false, not_false_eq_true, and_true, true_and, and_self, and_false, false_and, true_or, or_true, false_or, or_false, reduceIte]; done) | (simp [c_2, hc_k, c_3, hc_lim, c_5]; done) | (rw [hc_lim, hc_k]; exact hr2.2 6 k (by decide) (by omega)) | (rw [hc_lim, ← hr2.1 13 (by decide) (by decide)])))) (zIf_n (by first | assumption | (simp only [c_2, hc_k, c_3, hc_lim, c_5, eq_self, ne_eq, not_true_eq_false, not_false_eq_true, and_true, true_and, and_self, and_false, false_and, true_or, or_true, false_or, or_false, reduceIte]; done) | (simp [c_2, hc_k, c_3, hc_lim, c_5]; done) | grind) (zIf_n (by first | assumption | (simp only [c_2, hc_k, c_3, hc_lim, c_5, eq_self, ne_eq, not_true_eq_false, not_false_eq_true, and_true, true_and, and_self, and_false, false_and, true_or, or_true, false_or, or_false, reduceIte]; done) | (simp [c_2, hc_k, c_3, hc_lim, c_5]; done) | grind) (by refine ⟨τ2, ?_, hN⟩; rw [hc_lim]; exact hr2))) dX4_forecastDeath_74
      · skip
        have c_6 := zBi_0.mp c_6
        refine lv_bipush (v := -2) hx hb dX4_forecastDeath_39 (by decide) ?_
        exact z_iretE hx hb hr hlk hK hS (zIr_n (by first | assumption | (simp only [c_2, hc_k, c_3, hc_lim, c_6, eq_self, ne_eq, not_true_eq_false, not_false_eq_true, and_true, true_and, and_self, and_false, false_and, true_or, or_true, false_or, or_false, reduceIte]; done) | (simp [c_2, hc_k, c_3, hc_lim, c_6]; done) | grind) (zIr_t (by first | assumption | (simp only [c_2, hc_k, c_3, hc_lim, c_6, eq_self, ne_eq, not_true_eq_false, not_false_eq_true, and_true, true_and, and_self, and_false, false_and, true_or, or_true, false_or, or_false, reduceIte]; done) | (simp [c_2, hc_k, c_3, hc_lim, c_6]; done) | grind) (by first | rfl | (simp only [c_2, hc_k, c_3, hc_lim, c_6, eq_self, ne_eq, not_true_eq_false, not_false_eq_true, and_true, true_and, and_self, and_false, false_and, true_or, or_true, false_or, or_false, reduceIte]; done) | (simp [c_2, hc_k, c_3, hc_lim, c_6]; done)))) (zIf_n (by first | assumption | (simp only [c_2, hc_k, c_3, hc_lim, c_6, eq_self, ne_eq, not_true_eq_false, not_false_eq_true, and_true, true_and, and_self, and_false, false_and, true_or, or_true, false_or, or_false, reduceIte]; done) | (simp [c_2, hc_k, c_3, hc_lim, c_6]; done) | grind) (zIf_t (by first | assumption | (simp only [c_2, hc_k, c_3, hc_lim, c_6, eq_self, ne_eq, not_true_eq_false, not_false_eq_true, and_true, true_and, and_self, and_false, false_and, true_or, or_true, false_or, or_false, reduceIte]; done) | (simp [c_2, hc_k, c_3, hc_lim, c_6]; done) | grind) (by first | exact hN | (simpa only [c_2, hc_k, c_3, hc_lim, c_6, eq_self, ne_eq, not_true_eq_false, not_false_eq_true, and_true, true_and, and_self, and_false, false_and, true_or, or_true, false_or, or_false, reduceIte] using hN) | (simpa [c_2, hc_k, c_3, hc_lim, c_6] using hN)))) dX4_forecastDeath_41
    · skip
      have c_4 := zBi_0.mp c_4
      refine lv_iconst (v := -1) hx hb dX4_forecastDeath_22 (by decide) ?_
      exact z_iretE hx hb hr hlk hK hS (zIr_t (by first | assumption | (simp only [c_2, hc_k, c_4, eq_self, ne_eq, not_true_eq_false, not_false_eq_true, and_true, true_and, and_self, and_false, false_and, true_or, or_true, false_or, or_false, reduceIte]; done) | (simp [c_2, hc_k, c_4]; done) | grind) (by first | rfl | (simp only [c_2, hc_k, c_4, eq_self, ne_eq, not_true_eq_false, not_false_eq_true, and_true, true_and, and_self, and_false, false_and, true_or, or_true, false_or, or_false, reduceIte]; done) | (simp [c_2, hc_k, c_4]; done))) (zIf_t (by first | assumption | (simp only [c_2, hc_k, c_4, eq_self, ne_eq, not_true_eq_false, not_false_eq_true, and_true, true_and, and_self, and_false, false_and, true_or, or_true, false_or, or_false, reduceIte]; done) | (simp [c_2, hc_k, c_4]; done) | grind) (by first | exact hN | (simpa only [c_2, hc_k, c_4, eq_self, ne_eq, not_true_eq_false, not_false_eq_true, and_true, true_and, and_self, and_false, false_and, true_or, or_true, false_or, or_false, reduceIte] using hN) | (simpa [c_2, hc_k, c_4] using hN))) dX4_forecastDeath_23

theorem in_X4_forecastDelivered_X1 : ∀ w ∈ wsX10, w ∈ wsX4_forecastDelivered := by decide +kernel
theorem in_X4_forecastDelivered_X4 : ∀ w ∈ wsX40, w ∈ wsX4_forecastDelivered := by decide +kernel
set_option maxHeartbeats 4000000 in
set_option maxRecDepth 100000 in
theorem p_X4_forecastDelivered (l : Launch) (G : zG) (ad : Nat → Nat) (na : Nat → Nat → Nat) (ma : Nat → Nat) (hd : zTd ad na ma) (π : Nat → Nat) (hπ : zPi π) (d : Nat) (hd6 : d ≤ 6) (fl : Nat → Int32) (T : Nat → zS3) (n : Nat) (hn12 : n ≤ 12) (g : Nat → Int32) (τ : zT) (hd3 : 0 < g 3) (hd5 : 0 < g 5) (τa : zT) (hr0 : zRp n τa τ) (hg0 : 0 ≤ τa 11 9) (r : Int32) : zMi l G (zAll ad na ma) yX4_forecastDelivered wsX4_forecastDelivered 6 136 [.ref (ma 0), .int r] (zNA G ad n 12 g (zRest G ad na ma π d fl T) τ) (if ¬ (¬ r < 1 ∧ ¬ 300 < r) then -1 else (zPf n g r.toNatClampNeg τa).2 11 13 - τ 11 13) (if ¬ (¬ r < 1 ∧ ¬ 300 < r) then (zNA G ad n 12 g (zRest G ad na ma π d fl T) τ) else (fun H => ∃ τ2, zRp n (zPf n g r.toNatClampNeg τa).2 τ2 ∧ zNA G ad n 12 g (zRest G ad na ma π d fl (va_up T 1 (n, g, τ2))) τ H)) := by
  refine z_met (cc := cX4_forecastDelivered) (maxL := 2) (ret := (some .int)) (by decide) rfl (Nat.le_of_ble_eq_true rfl) ?_
  intro p e s m below meth c ls S hr hlk hnm hN hK hl
  have S : CallFix p m c cX4_forecastDelivered 2 s _ wsX4_forecastDelivered RX4 := S
  obtain ⟨hx, hb, hml, hown, hts⟩ := id S
  have hN12 : 12 ≤ 12 := Nat.le_refl 12
  have hA := zAp_top (G := G) hd π d fl T
  have hS : va_S (zAll ad na ma) s.heap s.heap [] := va_S.rf
  have hl : lv_has ls 2 [(0, .ref (ma 0)), (1, .int r)] := hl
  refine lv_iload_n hx hb dX4_forecastDelivered_0 rfl (lv_at hl 1 rfl) ?_
  refine lv_iconst (v := 1) hx hb dX4_forecastDelivered_1 (by decide) ?_
  refine lv_sipush (v := 300) hx hb dX4_forecastDelivered_2 (by decide) ?_
  refine z_si (As := [.int r, .int 1, .int 300]) (rest := []) (P2 := zNA G ad n 12 g (zRest G ad na ma π d fl T) τ) (r := zBi (¬ r < 1 ∧ ¬ 300 < r)) S (c_X4_inRange l G (zAll ad na ma) (zNA G ad n 12 g (zRest G ad na ma π d fl T) τ) r 1 300) (cwS 3 hts gX4_forecastDelivered_X4_inRange rfl rfl rfl (by decide +kernel) ⟨Nat.le_of_ble_eq_true rfl, Nat.le_of_ble_eq_true rfl⟩) hN hK hS (fun _ _ h => h) (fun _ h => h) hl.1 rfl rfl (Nat.le_of_ble_eq_true rfl) dX4_forecastDelivered_5 ⟨Nat.le_refl _, Nat.le_refl _⟩ (fun H locs hN hS _ => ?_)
  refine lv_if_ne (tgt := 13) hx hb dX4_forecastDelivered_8 (by decide) (fun c_1 => ?_) (fun c_2 => ?_)
  · skip
    have c_1 := zBi_n0.mp c_1
    obtain ⟨lim, hlim1, hlim2, rfl⟩ := zLe_of (a := 1) (b := 300) (by omega) (by omega) c_1
    have hc_lim : (nI lim).toNatClampNeg = lim := nI_clamp (by omega)
    refine lv_aload_n hx hb dX4_forecastDelivered_13 rfl (lv_at hl 0 rfl) ?_
    refine z_getF (v := .ref (na 1 0)) hx hb hts hown in_X4_forecastDelivered_X4 hK hN 2 (by decide) rfl (hts _ (List.mem_of_getElem? (i := 1) (by decide +kernel))) rfl dX4_forecastDelivered_14 ?_
    refine lv_aload_n hx hb dX4_forecastDelivered_17 rfl (lv_at hl 0 rfl) ?_
    refine z_getF (v := .ref (ad 0)) hx hb hts hown in_X4_forecastDelivered_X4 hK hN 0 (by decide) rfl (hts _ (List.mem_of_getElem? (i := 2) (by decide +kernel))) rfl dX4_forecastDelivered_18 ?_
    refine z_vv (As := [.ref (ad 0)]) (rest := []) (P2 := zNA G ad n 12 g (zRest G ad na ma π d fl (va_up T 1 (zCpy n g τ (T 1)))) τ) S (t_copy_j hd π d fl T n hn12 g τ (by decide) (by decide)) (cwV 1 hts gX4_forecastDelivered_X1_copyFrom rfl rfl rfl (by decide +kernel) ⟨Nat.le_of_ble_eq_true rfl, Nat.le_of_ble_eq_true rfl⟩) (z_recJ hK hN (by decide) (by decide)) hN hK hS (fun _ _ h => h) (fun _ h => h) hl.1 rfl rfl (Nat.le_of_ble_eq_true rfl) dX4_forecastDelivered_21 ⟨Nat.le_refl _, Nat.le_refl _⟩ (fun H locs hN hS _ => ?_)
    have hA := zAp_top (G := G) hd π d fl (va_up T 1 (zCpy n g τ (T 1)))
    refine lv_aload_n hx hb dX4_forecastDelivered_24 rfl (lv_at hl 0 rfl) ?_
    refine z_getF (v := .ref (ma 2)) hx hb hts hown in_X4_forecastDelivered_X4 hK hN 3 (by decide) rfl (hts _ (List.mem_of_getElem? (i := 3) (by decide +kernel))) rfl dX4_forecastDelivered_25 ?_
    refine lv_iload_n hx hb dX4_forecastDelivered_28 rfl (lv_at hl 1 rfl) ?_
    refine z_vi (As := [.int (nI lim)]) (rest := []) (P2 := (fun H => ∃ τ2, zRp n (zPf n g lim τa).2 τ2 ∧ zNA G ad n 12 g (zRest G ad na ma π d fl (va_up T 1 (n, g, τ2))) τ H)) (r := nI (zPf n g lim τa).1) S (t_perf_1 hd π d fl T n g τ n hn12 g hd3 hd5 (zCpy n g τ (T 1)).2.2 τa (hr0.cpy _) hg0 lim (by omega)) (cwV 1 hts gX4_forecastDelivered_X2_perform rfl rfl rfl (by decide +kernel) ⟨Nat.le_of_ble_eq_true rfl, Nat.le_of_ble_eq_true rfl⟩) (z_recP2 hK hN) hN hK hS (fun _ _ h => h) (fun _ h => h) hl.1 rfl rfl (Nat.le_of_ble_eq_true rfl) dX4_forecastDelivered_29 ⟨Nat.le_refl _, Nat.le_refl _⟩ (fun H locs hN hS _ => ?_)
    obtain ⟨τ2, hr2, hN⟩ := hN
    have hNj : zNA G (na 1) n 12 g [] τ2 H := by have h := zRest.net hN (j := 1) (by decide) (by decide); rwa [va_up_self] at h
    have hA := zAp_top (G := G) hd π d fl (va_up T 1 (n, g, τ2))
    refine lv_pop hx hb dX4_forecastDelivered_32 rfl ?_
    refine lv_aload_n hx hb dX4_forecastDelivered_33 rfl (lv_at hl 0 rfl) ?_
    refine z_getF (v := .ref (na 1 0)) hx hb hts hown in_X4_forecastDelivered_X4 hK hN 2 (by decide) rfl (hts _ (List.mem_of_getElem? (i := 1) (by decide +kernel))) rfl dX4_forecastDelivered_34 ?_
    refine z_getO (v := .int (τ2 11 13)) hx hb hts hown in_X4_forecastDelivered_X1 hK hNj 9 (by decide) rfl (hts _ (List.mem_of_getElem? (i := 4) (by decide +kernel))) rfl dX4_forecastDelivered_37 ?_
    refine lv_aload_n hx hb dX4_forecastDelivered_40 rfl (lv_at hl 0 rfl) ?_
    refine z_getF (v := .ref (ad 0)) hx hb hts hown in_X4_forecastDelivered_X4 hK hN 0 (by decide) rfl (hts _ (List.mem_of_getElem? (i := 2) (by decide +kernel))) rfl dX4_forecastDelivered_41 ?_
    refine z_getO (v := .int (τ 11 13)) hx hb hts hown in_X4_forecastDelivered_X1 hK hN 9 (by decide) rfl (hts _ (List.mem_of_getElem? (i := 4) (by decide +kernel))) rfl dX4_forecastDelivered_44 ?_
    refine lv_isub hx hb dX4_forecastDelivered_47 ?_
    exact z_iretE hx hb hr hlk hK hS (zIr_n (by first | assumption | (simp only [c_1, hc_lim, eq_self, ne_eq, not_true_eq_false, not_false_eq_true, and_true, true_and, and_self, and_false, false_and, true_or, or_true, false_or, or_false, reduceIte]; done) | (simp [c_1, hc_lim]; done) | grind) (by first | rfl | (simp only [c_1, hc_lim, eq_self, ne_eq, not_true_eq_false, not_false_eq_true, and_true, true_and, and_self, and_false, false_and, true_or, or_true, false_or, or_false, reduceIte]; done) | (simp [c_1, hc_lim]; done) | (rw [hc_lim, hc_k]; exact hr2.2 6 k (by decide) (by omega)) | (rw [hc_lim, ← hr2.1 13 (by decide) (by decide)]))) (zIf_n (by first | assumption | (simp only [c_1, hc_lim, eq_self, ne_eq, not_true_eq_false, not_false_eq_true, and_true, true_and, and_self, and_false, false_and, true_or, or_true, false_or, or_false, reduceIte]; done) | (simp [c_1, hc_lim]; done) | grind) (by refine ⟨τ2, ?_, hN⟩; rw [hc_lim]; exact hr2)) dX4_forecastDelivered_48
  · skip
    have c_2 := zBi_0.mp c_2
    refine lv_iconst (v := -1) hx hb dX4_forecastDelivered_11 (by decide) ?_
    exact z_iretE hx hb hr hlk hK hS (zIr_t (by first | assumption | (simp only [c_2, eq_self, ne_eq, not_true_eq_false, not_false_eq_true, and_true, true_and, and_self, and_false, false_and, true_or, or_true, false_or, or_false, reduceIte]; done) | (simp [c_2]; done) | grind) (by first | rfl | (simp only [c_2, eq_self, ne_eq, not_true_eq_false, not_false_eq_true, and_true, true_and, and_self, and_false, false_and, true_or, or_true, false_or, or_false, reduceIte]; done) | (simp [c_2]; done))) (zIf_t (by first | assumption | (simp only [c_2, eq_self, ne_eq, not_true_eq_false, not_false_eq_true, and_true, true_and, and_self, and_false, false_and, true_or, or_true, false_or, or_false, reduceIte]; done) | (simp [c_2]; done) | grind) (by first | exact hN | (simpa only [c_2, eq_self, ne_eq, not_true_eq_false, not_false_eq_true, and_true, true_and, and_self, and_false, false_and, true_or, or_true, false_or, or_false, reduceIte] using hN) | (simpa [c_2] using hN))) dX4_forecastDelivered_12

theorem in_X4_undo_X0 : ∀ w ∈ wsX00, w ∈ wsX4_undo := by decide +kernel
theorem in_X4_undo_X4 : ∀ w ∈ wsX40, w ∈ wsX4_undo := by decide +kernel
set_option maxHeartbeats 4000000 in
set_option maxRecDepth 100000 in
theorem p_X4_undo (l : Launch) (G : zG) (ad : Nat → Nat) (na : Nat → Nat → Nat) (ma : Nat → Nat) (hd : zTd ad na ma) (π : Nat → Nat) (hπ : zPi π) (d : Nat) (hd6 : d ≤ 6) (fl : Nat → Int32) (T : Nat → zS3) (n : Nat) (hn12 : n ≤ 12) (g : Nat → Int32) (τ : zT) (hTn : ∀ j, 1 ≤ j → j < 10 → (T j).1 ≤ 12) : zMi l G (zAll ad na ma) yX4_undo wsX4_undo 3 64 [.ref (ma 0)] (zNA G ad n 12 g (zRest G ad na ma π d fl T) τ) (if d = 0 then -2 else nI (d - 1)) (if d = 0 then (zNA G ad n 12 g (zRest G ad na ma π d fl T) τ) else (zNA G ad ((T (π (d - 1))).1) 12 ((T (π (d - 1))).2.1) (zRest G ad na ma π (d - 1) fl T) (zCpG (T (π (d - 1))).2.2 (zIt (zCpS (T (π (d - 1))).2.2) (T (π (d - 1))).1 τ)))) := by
  refine z_met (cc := cX4_undo) (maxL := 1) (ret := (some .int)) (by decide) rfl (Nat.le_of_ble_eq_true rfl) ?_
  intro p e s m below meth c ls S hr hlk hnm hN hK hl
  have S : CallFix p m c cX4_undo 1 s _ wsX4_undo RX4 := S
  obtain ⟨hx, hb, hml, hown, hts⟩ := id S
  have hN12 : 12 ≤ 12 := Nat.le_refl 12
  have hA := zAp_top (G := G) hd π d fl T
  have hS : va_S (zAll ad na ma) s.heap s.heap [] := va_S.rf
  have hl : lv_has ls 1 [(0, .ref (ma 0))] := hl
  refine lv_aload_n hx hb dX4_undo_0 rfl (lv_at hl 0 rfl) ?_
  refine z_getF (v := .ref (ma 3)) hx hb hts hown in_X4_undo_X4 hK hN 4 (by decide) rfl (hts _ (List.mem_of_getElem? (i := 1) (by decide +kernel))) rfl dX4_undo_1 ?_
  refine z_getH (v := .int (nI d)) hx hb hts hown in_X4_undo_X0 hK hN 1 (by decide) rfl (hts _ (List.mem_of_getElem? (i := 2) (by decide +kernel))) rfl dX4_undo_4 ?_
  refine lv_if_ne (tgt := 13) hx hb dX4_undo_7 (by decide) (fun c_1 => ?_) (fun c_2 => ?_)
  · skip
    have c_1 : ¬ d = 0 := (not_congr (z_eqI (a := d) (b := 0) (by omega) (by omega))).mp c_1
    refine lv_aload_n hx hb dX4_undo_13 rfl (lv_at hl 0 rfl) ?_
    refine z_getF (v := .ref (ma 3)) hx hb hts hown in_X4_undo_X4 hK hN 4 (by decide) rfl (hts _ (List.mem_of_getElem? (i := 1) (by decide +kernel))) rfl dX4_undo_14 ?_
    refine lv_aload_n hx hb dX4_undo_17 rfl (lv_at hl 0 rfl) ?_
    refine z_getF (v := .ref (ad 0)) hx hb hts hown in_X4_undo_X4 hK hN 0 (by decide) rfl (hts _ (List.mem_of_getElem? (i := 3) (by decide +kernel))) rfl dX4_undo_18 ?_
    refine z_vv (As := [.ref (ad 0)]) (rest := []) (P2 := zNA G ad ((T (π (d - 1))).1) 12 ((T (π (d - 1))).2.1) (zRest G ad na ma π (d - 1) fl T) (zCpG (T (π (d - 1))).2.2 (zIt (zCpS (T (π (d - 1))).2.2) (T (π (d - 1))).1 τ))) S (h_X0_popInto l G ad na ma hd π hπ d hd6 fl T n hn12 g (by omega) (hTn _ (by have := hπ.1 (d - 1) (by omega); omega) (by have := hπ.1 (d - 1) (by omega); omega)) τ) (cwV 1 hts gX4_undo_X0_popInto rfl rfl rfl (by decide +kernel) ⟨Nat.le_of_ble_eq_true rfl, Nat.le_of_ble_eq_true rfl⟩) (z_recH hK hN) hN hK hS (fun _ _ h => h) (fun _ h => h) hl.1 rfl rfl (Nat.le_of_ble_eq_true rfl) dX4_undo_21 ⟨Nat.le_refl _, Nat.le_refl _⟩ (fun H locs hN hS _ => ?_)
    have hA := zAp_top (G := G) hd π (d - 1) fl T
    refine lv_aload_n hx hb dX4_undo_24 rfl (lv_at hl 0 rfl) ?_
    refine z_getF (v := .ref (ma 3)) hx hb hts hown in_X4_undo_X4 hK hN 4 (by decide) rfl (hts _ (List.mem_of_getElem? (i := 1) (by decide +kernel))) rfl dX4_undo_25 ?_
    refine z_getH (v := .int (nI (d - 1))) hx hb hts hown in_X4_undo_X0 hK hN 1 (by decide) rfl (hts _ (List.mem_of_getElem? (i := 2) (by decide +kernel))) rfl dX4_undo_28 ?_
    exact z_iretE hx hb hr hlk hK hS (zIr_n (by first | assumption | (simp only [c_1, eq_self, ne_eq, not_true_eq_false, not_false_eq_true, and_true, true_and, and_self, and_false, false_and, true_or, or_true, false_or, or_false, reduceIte]; done) | (simp [c_1]; done) | grind) (by first | rfl | (simp only [c_1, eq_self, ne_eq, not_true_eq_false, not_false_eq_true, and_true, true_and, and_self, and_false, false_and, true_or, or_true, false_or, or_false, reduceIte]; done) | (simp [c_1]; done))) (zIf_n (by first | assumption | (simp only [c_1, eq_self, ne_eq, not_true_eq_false, not_false_eq_true, and_true, true_and, and_self, and_false, false_and, true_or, or_true, false_or, or_false, reduceIte]; done) | (simp [c_1]; done) | grind) (by first | exact hN | (simpa only [c_1, eq_self, ne_eq, not_true_eq_false, not_false_eq_true, and_true, true_and, and_self, and_false, false_and, true_or, or_true, false_or, or_false, reduceIte] using hN) | (simpa [c_1] using hN))) dX4_undo_31
  · skip
    have c_2 : d = 0 :=  (z_eqI (a := d) (b := 0) (by omega) (by omega)).mp c_2
    refine lv_bipush (v := -2) hx hb dX4_undo_10 (by decide) ?_
    exact z_iretE hx hb hr hlk hK hS (zIr_t (by first | assumption | (simp only [c_2, eq_self, ne_eq, not_true_eq_false, not_false_eq_true, and_true, true_and, and_self, and_false, false_and, true_or, or_true, false_or, or_false, reduceIte]; done) | (simp [c_2]; done) | grind) (by first | rfl | (simp only [c_2, eq_self, ne_eq, not_true_eq_false, not_false_eq_true, and_true, true_and, and_self, and_false, false_and, true_or, or_true, false_or, or_false, reduceIte]; done) | (simp [c_2]; done))) (zIf_t (by first | assumption | (simp only [c_2, eq_self, ne_eq, not_true_eq_false, not_false_eq_true, and_true, true_and, and_self, and_false, false_and, true_or, or_true, false_or, or_false, reduceIte]; done) | (simp [c_2]; done) | grind) (by first | exact hN | (simpa only [c_2, eq_self, ne_eq, not_true_eq_false, not_false_eq_true, and_true, true_and, and_self, and_false, false_and, true_or, or_true, false_or, or_false, reduceIte] using hN) | (simpa [c_2] using hN))) dX4_undo_12

theorem in_X4_save_X1 : ∀ w ∈ wsX10, w ∈ wsX4_save := by decide +kernel
theorem in_X4_save_X4 : ∀ w ∈ wsX40, w ∈ wsX4_save := by decide +kernel
set_option maxHeartbeats 4000000 in
set_option maxRecDepth 100000 in
theorem p_X4_save (l : Launch) (G : zG) (ad : Nat → Nat) (na : Nat → Nat → Nat) (ma : Nat → Nat) (hd : zTd ad na ma) (π : Nat → Nat) (hπ : zPi π) (d : Nat) (hd6 : d ≤ 6) (fl : Nat → Int32) (T : Nat → zS3) (n : Nat) (hn12 : n ≤ 12) (g : Nat → Int32) (τ : zT) (hTn : ∀ j, 1 ≤ j → j < 10 → (T j).1 ≤ 12) (x : Int32) : zMi l G (zAll ad na ma) yX4_save wsX4_save 2 43 [.ref (ma 0), .int x] (zNA G ad n 12 g (zRest G ad na ma π d fl T) τ) (if ¬ (¬ x < 0 ∧ ¬ 1 < x) then -1 else nI n) (if ¬ (¬ x < 0 ∧ ¬ 1 < x) then (zNA G ad n 12 g (zRest G ad na ma π d fl T) τ) else (zNA G ad n 12 g (zRest G ad na ma π d (upd fl x.toNatClampNeg 1) (va_up T (8 + x.toNatClampNeg) (zCpy n g τ (T (8 + x.toNatClampNeg))))) τ)) := by
  refine z_met (cc := cX4_save) (maxL := 2) (ret := (some .int)) (by decide) rfl (Nat.le_of_ble_eq_true rfl) ?_
  intro p e s m below meth c ls S hr hlk hnm hN hK hl
  have S : CallFix p m c cX4_save 2 s _ wsX4_save RX4 := S
  obtain ⟨hx, hb, hml, hown, hts⟩ := id S
  have hN12 : 12 ≤ 12 := Nat.le_refl 12
  have hA := zAp_top (G := G) hd π d fl T
  have hS : va_S (zAll ad na ma) s.heap s.heap [] := va_S.rf
  have hl : lv_has ls 2 [(0, .ref (ma 0)), (1, .int x)] := hl
  refine lv_iload_n hx hb dX4_save_0 rfl (lv_at hl 1 rfl) ?_
  refine lv_iconst (v := 0) hx hb dX4_save_1 (by decide) ?_
  refine lv_iconst (v := 1) hx hb dX4_save_2 (by decide) ?_
  refine z_si (As := [.int x, .int 0, .int 1]) (rest := []) (P2 := zNA G ad n 12 g (zRest G ad na ma π d fl T) τ) (r := zBi (¬ x < 0 ∧ ¬ 1 < x)) S (c_X4_inRange l G (zAll ad na ma) (zNA G ad n 12 g (zRest G ad na ma π d fl T) τ) x 0 1) (cwS 3 hts gX4_save_X4_inRange rfl rfl rfl (by decide +kernel) ⟨Nat.le_of_ble_eq_true rfl, Nat.le_of_ble_eq_true rfl⟩) hN hK hS (fun _ _ h => h) (fun _ h => h) hl.1 rfl rfl (Nat.le_of_ble_eq_true rfl) dX4_save_3 ⟨Nat.le_refl _, Nat.le_refl _⟩ (fun H locs hN hS _ => ?_)
  refine lv_if_ne (tgt := 11) hx hb dX4_save_6 (by decide) (fun c_1 => ?_) (fun c_2 => ?_)
  · skip
    have c_1 := zBi_n0.mp c_1
    obtain ⟨lim, hlim1, hlim2, rfl⟩ := zLe_of (a := 0) (b := 1) (by omega) (by omega) c_1
    have hc_lim : (nI lim).toNatClampNeg = lim := nI_clamp (by omega)
    refine lv_aload_n hx hb dX4_save_11 rfl (lv_at hl 0 rfl) ?_
    refine z_getF (v := .ref (ma 5)) hx hb hts hown in_X4_save_X4 hK hN 5 (by decide) rfl (hts _ (List.mem_of_getElem? (i := 1) (by decide +kernel))) rfl dX4_save_12 ?_
    refine lv_iload_n hx hb dX4_save_15 rfl (lv_at hl 1 rfl) ?_
    refine z_aaldP (i := lim) hx hb hK hN rfl (by omega) dX4_save_16 ?_
    refine lv_aload_n hx hb dX4_save_17 rfl (lv_at hl 0 rfl) ?_
    refine z_getF (v := .ref (ad 0)) hx hb hts hown in_X4_save_X4 hK hN 0 (by decide) rfl (hts _ (List.mem_of_getElem? (i := 2) (by decide +kernel))) rfl dX4_save_18 ?_
    refine z_vv (As := [.ref (ad 0)]) (rest := []) (P2 := zNA G ad n 12 g (zRest G ad na ma π d fl (va_up T (8 + lim) (zCpy n g τ (T (8 + lim))))) τ) S (t_copy_j hd π d fl T n hn12 g τ (by omega) (by omega)) (cwV 1 hts gX4_save_X1_copyFrom rfl rfl rfl (by decide +kernel) ⟨Nat.le_of_ble_eq_true rfl, Nat.le_of_ble_eq_true rfl⟩) (z_recJ hK hN (by omega) (by omega)) hN hK hS (fun _ _ h => h) (fun _ h => h) hl.1 rfl rfl (Nat.le_of_ble_eq_true rfl) dX4_save_21 ⟨Nat.le_refl _, Nat.le_refl _⟩ (fun H locs hN hS _ => ?_)
    have hA := zAp_top (G := G) hd π d fl (va_up T (8 + lim) (zCpy n g τ (T (8 + lim))))
    refine lv_aload_n hx hb dX4_save_24 rfl (lv_at hl 0 rfl) ?_
    refine z_getF (v := .ref (ma 6)) hx hb hts hown in_X4_save_X4 hK hN 6 (by decide) rfl (hts _ (List.mem_of_getElem? (i := 3) (by decide +kernel))) rfl dX4_save_25 ?_
    refine lv_iload_n hx hb dX4_save_28 rfl (lv_at hl 1 rfl) ?_
    refine lv_iconst (v := 1) hx hb dX4_save_29 (by decide) ?_
    refine z_zastF (i := lim) (w := 1) hx hb hK hA hS hN (by decide) rfl (by omega) dX4_save_30 (fun H locs hN hS => ?_)
    have hA := zAp_top (G := G) hd π d (upd fl lim 1) (va_up T (8 + lim) (zCpy n g τ (T (8 + lim))))
    refine lv_aload_n hx hb dX4_save_31 rfl (lv_at hl 0 rfl) ?_
    refine z_getF (v := .ref (ad 0)) hx hb hts hown in_X4_save_X4 hK hN 0 (by decide) rfl (hts _ (List.mem_of_getElem? (i := 2) (by decide +kernel))) rfl dX4_save_32 ?_
    refine z_getO (v := .int (nI n)) hx hb hts hown in_X4_save_X1 hK hN 2 (by decide) rfl (hts _ (List.mem_of_getElem? (i := 4) (by decide +kernel))) rfl dX4_save_35 ?_
    exact z_iretE hx hb hr hlk hK hS (zIr_n (by first | assumption | (simp only [c_1, hc_lim, eq_self, ne_eq, not_true_eq_false, not_false_eq_true, and_true, true_and, and_self, and_false, false_and, true_or, or_true, false_or, or_false, reduceIte]; done) | (simp [c_1, hc_lim]; done) | grind) (by first | rfl | (simp only [c_1, hc_lim, eq_self, ne_eq, not_true_eq_false, not_false_eq_true, and_true, true_and, and_self, and_false, false_and, true_or, or_true, false_or, or_false, reduceIte]; done) | (simp [c_1, hc_lim]; done))) (zIf_n (by first | assumption | (simp only [c_1, hc_lim, eq_self, ne_eq, not_true_eq_false, not_false_eq_true, and_true, true_and, and_self, and_false, false_and, true_or, or_true, false_or, or_false, reduceIte]; done) | (simp [c_1, hc_lim]; done) | grind) (by first | exact hN | (simpa only [c_1, hc_lim, eq_self, ne_eq, not_true_eq_false, not_false_eq_true, and_true, true_and, and_self, and_false, false_and, true_or, or_true, false_or, or_false, reduceIte] using hN) | (simpa [c_1, hc_lim] using hN))) dX4_save_38
  · skip
    have c_2 := zBi_0.mp c_2
    refine lv_iconst (v := -1) hx hb dX4_save_9 (by decide) ?_
    exact z_iretE hx hb hr hlk hK hS (zIr_t (by first | assumption | (simp only [c_2, eq_self, ne_eq, not_true_eq_false, not_false_eq_true, and_true, true_and, and_self, and_false, false_and, true_or, or_true, false_or, or_false, reduceIte]; done) | (simp [c_2]; done) | grind) (by first | rfl | (simp only [c_2, eq_self, ne_eq, not_true_eq_false, not_false_eq_true, and_true, true_and, and_self, and_false, false_and, true_or, or_true, false_or, or_false, reduceIte]; done) | (simp [c_2]; done))) (zIf_t (by first | assumption | (simp only [c_2, eq_self, ne_eq, not_true_eq_false, not_false_eq_true, and_true, true_and, and_self, and_false, false_and, true_or, or_true, false_or, or_false, reduceIte]; done) | (simp [c_2]; done) | grind) (by first | exact hN | (simpa only [c_2, eq_self, ne_eq, not_true_eq_false, not_false_eq_true, and_true, true_and, and_self, and_false, false_and, true_or, or_true, false_or, or_false, reduceIte] using hN) | (simpa [c_2] using hN))) dX4_save_10

theorem in_X4_restore_X0 : ∀ w ∈ wsX00, w ∈ wsX4_restore := by decide +kernel
theorem in_X4_restore_X1 : ∀ w ∈ wsX10, w ∈ wsX4_restore := by decide +kernel
theorem in_X4_restore_X4 : ∀ w ∈ wsX40, w ∈ wsX4_restore := by decide +kernel
set_option maxHeartbeats 4000000 in
set_option maxRecDepth 100000 in
theorem p_X4_restore (l : Launch) (G : zG) (ad : Nat → Nat) (na : Nat → Nat → Nat) (ma : Nat → Nat) (hd : zTd ad na ma) (π : Nat → Nat) (hπ : zPi π) (d : Nat) (hd6 : d ≤ 6) (fl : Nat → Int32) (T : Nat → zS3) (n : Nat) (hn12 : n ≤ 12) (g : Nat → Int32) (τ : zT) (hTn : ∀ j, 1 ≤ j → j < 10 → (T j).1 ≤ 12) (x : Int32) : zMi l G (zAll ad na ma) yX4_restore wsX4_restore 2 43 [.ref (ma 0), .int x] (zNA G ad n 12 g (zRest G ad na ma π d fl T) τ) (if ¬ (¬ x < 0 ∧ ¬ 1 < x) then -1 else (if fl x.toNatClampNeg = 0 then -2 else nI (T (8 + x.toNatClampNeg)).1)) (if ¬ (¬ x < 0 ∧ ¬ 1 < x) then (zNA G ad n 12 g (zRest G ad na ma π d fl T) τ) else (if fl x.toNatClampNeg = 0 then (zNA G ad n 12 g (zRest G ad na ma π d fl T) τ) else (zNA G ad ((T (8 + x.toNatClampNeg)).1) 12 ((T (8 + x.toNatClampNeg)).2.1) (zRest G ad na ma π 0 fl T) (zCpG (T (8 + x.toNatClampNeg)).2.2 (zIt (zCpS (T (8 + x.toNatClampNeg)).2.2) (T (8 + x.toNatClampNeg)).1 τ))))) := by
  refine z_met (cc := cX4_restore) (maxL := 2) (ret := (some .int)) (by decide) rfl (Nat.le_of_ble_eq_true rfl) ?_
  intro p e s m below meth c ls S hr hlk hnm hN hK hl
  have S : CallFix p m c cX4_restore 2 s _ wsX4_restore RX4 := S
  obtain ⟨hx, hb, hml, hown, hts⟩ := id S
  have hN12 : 12 ≤ 12 := Nat.le_refl 12
  have hA := zAp_top (G := G) hd π d fl T
  have hS : va_S (zAll ad na ma) s.heap s.heap [] := va_S.rf
  have hl : lv_has ls 2 [(0, .ref (ma 0)), (1, .int x)] := hl
  refine lv_iload_n hx hb dX4_restore_0 rfl (lv_at hl 1 rfl) ?_
  refine lv_iconst (v := 0) hx hb dX4_restore_1 (by decide) ?_
  refine lv_iconst (v := 1) hx hb dX4_restore_2 (by decide) ?_
  refine z_si (As := [.int x, .int 0, .int 1]) (rest := []) (P2 := zNA G ad n 12 g (zRest G ad na ma π d fl T) τ) (r := zBi (¬ x < 0 ∧ ¬ 1 < x)) S (c_X4_inRange l G (zAll ad na ma) (zNA G ad n 12 g (zRest G ad na ma π d fl T) τ) x 0 1) (cwS 3 hts gX4_restore_X4_inRange rfl rfl rfl (by decide +kernel) ⟨Nat.le_of_ble_eq_true rfl, Nat.le_of_ble_eq_true rfl⟩) hN hK hS (fun _ _ h => h) (fun _ h => h) hl.1 rfl rfl (Nat.le_of_ble_eq_true rfl) dX4_restore_3 ⟨Nat.le_refl _, Nat.le_refl _⟩ (fun H locs hN hS _ => ?_)
  refine lv_if_ne (tgt := 11) hx hb dX4_restore_6 (by decide) (fun c_1 => ?_) (fun c_2 => ?_)
  · skip
    have c_1 := zBi_n0.mp c_1
    obtain ⟨lim, hlim1, hlim2, rfl⟩ := zLe_of (a := 0) (b := 1) (by omega) (by omega) c_1
    have hc_lim : (nI lim).toNatClampNeg = lim := nI_clamp (by omega)
    refine lv_aload_n hx hb dX4_restore_11 rfl (lv_at hl 0 rfl) ?_
    refine z_getF (v := .ref (ma 6)) hx hb hts hown in_X4_restore_X4 hK hN 6 (by decide) rfl (hts _ (List.mem_of_getElem? (i := 1) (by decide +kernel))) rfl dX4_restore_12 ?_
    refine lv_iload_n hx hb dX4_restore_15 rfl (lv_at hl 1 rfl) ?_
    refine z_zaldF (i := lim) hx hb hK hN rfl (by omega) dX4_restore_16 ?_
    refine lv_if_ne (tgt := 23) hx hb dX4_restore_17 (by decide) (fun c_3 => ?_) (fun c_4 => ?_)
    · skip
      refine lv_aload_n hx hb dX4_restore_23 rfl (lv_at hl 0 rfl) ?_
      refine z_getF (v := .ref (ad 0)) hx hb hts hown in_X4_restore_X4 hK hN 0 (by decide) rfl (hts _ (List.mem_of_getElem? (i := 2) (by decide +kernel))) rfl dX4_restore_24 ?_
      refine lv_aload_n hx hb dX4_restore_27 rfl (lv_at hl 0 rfl) ?_
      refine z_getF (v := .ref (ma 5)) hx hb hts hown in_X4_restore_X4 hK hN 5 (by decide) rfl (hts _ (List.mem_of_getElem? (i := 3) (by decide +kernel))) rfl dX4_restore_28 ?_
      refine lv_iload_n hx hb dX4_restore_31 rfl (lv_at hl 1 rfl) ?_
      refine z_aaldP (i := lim) hx hb hK hN rfl (by omega) dX4_restore_32 ?_
      refine z_vv (As := [.ref (na (8 + lim) 0)]) (rest := []) (P2 := zNA G ad ((T (8 + lim)).1) 12 ((T (8 + lim)).2.1) (zRest G ad na ma π d fl T) (zCpG (T (8 + lim)).2.2 (zIt (zCpS (T (8 + lim)).2.2) (T (8 + lim)).1 τ))) S (t_copy_0 hd π d fl T n g τ (by omega) (by omega) (hTn _ (by omega) (by omega))) (cwV 1 hts gX4_restore_X1_copyFrom rfl rfl rfl (by decide +kernel) ⟨Nat.le_of_ble_eq_true rfl, Nat.le_of_ble_eq_true rfl⟩) (z_recN hK hN) hN hK hS (fun _ _ h => h) (fun _ h => h) hl.1 rfl rfl (Nat.le_of_ble_eq_true rfl) dX4_restore_33 ⟨Nat.le_refl _, Nat.le_refl _⟩ (fun H locs hN hS _ => ?_)
      have hA := zAp_top (G := G) hd π d fl T
      refine lv_aload_n hx hb dX4_restore_36 rfl (lv_at hl 0 rfl) ?_
      refine z_getF (v := .ref (ma 3)) hx hb hts hown in_X4_restore_X4 hK hN 4 (by decide) rfl (hts _ (List.mem_of_getElem? (i := 4) (by decide +kernel))) rfl dX4_restore_37 ?_
      refine lv_iconst (v := 0) hx hb dX4_restore_40 (by decide) ?_
      refine z_putH (w := 0) hx hb hts hown in_X4_restore_X0 hK hA hS hN (hts _ (List.mem_of_getElem? (i := 5) (by decide +kernel))) 0 (by decide) dX4_restore_41 (fun H locs hN hS => ?_)
      have hA := zAp_top (G := G) hd π 0 fl T
      refine lv_aload_n hx hb dX4_restore_44 rfl (lv_at hl 0 rfl) ?_
      refine z_getF (v := .ref (ad 0)) hx hb hts hown in_X4_restore_X4 hK hN 0 (by decide) rfl (hts _ (List.mem_of_getElem? (i := 2) (by decide +kernel))) rfl dX4_restore_45 ?_
      refine z_getO (v := .int (nI ((T (8 + lim)).1))) hx hb hts hown in_X4_restore_X1 hK hN 2 (by decide) rfl (hts _ (List.mem_of_getElem? (i := 6) (by decide +kernel))) rfl dX4_restore_48 ?_
      exact z_iretE hx hb hr hlk hK hS (zIr_n (by first | assumption | (simp only [c_1, hc_lim, c_3, eq_self, ne_eq, not_true_eq_false, not_false_eq_true, and_true, true_and, and_self, and_false, false_and, true_or, or_true, false_or, or_false, reduceIte]; done) | (simp [c_1, hc_lim, c_3]; done) | grind) (zIr_n (by first | assumption | (simp only [c_1, hc_lim, c_3, eq_self, ne_eq, not_true_eq_false, not_false_eq_true, and_true, true_and, and_self, and_false, false_and, true_or, or_true, false_or, or_false, reduceIte]; done) | (simp [c_1, hc_lim, c_3]; done) | grind) (by first | rfl | (simp only [c_1, hc_lim, c_3, eq_self, ne_eq, not_true_eq_false, not_false_eq_true, and_true, true_and, and_self, and_false, false_and, true_or, or_true, false_or, or_false, reduceIte]; done) | (simp [c_1, hc_lim, c_3]; done)))) (zIf_n (by first | assumption | (simp only [c_1, hc_lim, c_3, eq_self, ne_eq, not_true_eq_false, not_false_eq_true, and_true, true_and, and_self, and_false, false_and, true_or, or_true, false_or, or_false, reduceIte]; done) | (simp [c_1, hc_lim, c_3]; done) | grind) (zIf_n (by first | assumption | (simp only [c_1, hc_lim, c_3, eq_self, ne_eq, not_true_eq_false, not_false_eq_true, and_true, true_and, and_self, and_false, false_and, true_or, or_true, false_or, or_false, reduceIte]; done) | (simp [c_1, hc_lim, c_3]; done) | grind) (by first | exact hN | (simpa only [c_1, hc_lim, c_3, eq_self, ne_eq, not_true_eq_false, not_false_eq_true, and_true, true_and, and_self, and_false, false_and, true_or, or_true, false_or, or_false, reduceIte] using hN) | (simpa [c_1, hc_lim, c_3] using hN)))) dX4_restore_51
    · skip
      refine lv_bipush (v := -2) hx hb dX4_restore_20 (by decide) ?_
      exact z_iretE hx hb hr hlk hK hS (zIr_n (by first | assumption | (simp only [c_1, hc_lim, c_4, eq_self, ne_eq, not_true_eq_false, not_false_eq_true, and_true, true_and, and_self, and_false, false_and, true_or, or_true, false_or, or_false, reduceIte]; done) | (simp [c_1, hc_lim, c_4]; done) | grind) (zIr_t (by first | assumption | (simp only [c_1, hc_lim, c_4, eq_self, ne_eq, not_true_eq_false, not_false_eq_true, and_true, true_and, and_self, and_false, false_and, true_or, or_true, false_or, or_false, reduceIte]; done) | (simp [c_1, hc_lim, c_4]; done) | grind) (by first | rfl | (simp only [c_1, hc_lim, c_4, eq_self, ne_eq, not_true_eq_false, not_false_eq_true, and_true, true_and, and_self, and_false, false_and, true_or, or_true, false_or, or_false, reduceIte]; done) | (simp [c_1, hc_lim, c_4]; done)))) (zIf_n (by first | assumption | (simp only [c_1, hc_lim, c_4, eq_self, ne_eq, not_true_eq_false, not_false_eq_true, and_true, true_and, and_self, and_false, false_and, true_or, or_true, false_or, or_false, reduceIte]; done) | (simp [c_1, hc_lim, c_4]; done) | grind) (zIf_t (by first | assumption | (simp only [c_1, hc_lim, c_4, eq_self, ne_eq, not_true_eq_false, not_false_eq_true, and_true, true_and, and_self, and_false, false_and, true_or, or_true, false_or, or_false, reduceIte]; done) | (simp [c_1, hc_lim, c_4]; done) | grind) (by first | exact hN | (simpa only [c_1, hc_lim, c_4, eq_self, ne_eq, not_true_eq_false, not_false_eq_true, and_true, true_and, and_self, and_false, false_and, true_or, or_true, false_or, or_false, reduceIte] using hN) | (simpa [c_1, hc_lim, c_4] using hN)))) dX4_restore_22
  · skip
    have c_2 := zBi_0.mp c_2
    refine lv_iconst (v := -1) hx hb dX4_restore_9 (by decide) ?_
    exact z_iretE hx hb hr hlk hK hS (zIr_t (by first | assumption | (simp only [c_2, eq_self, ne_eq, not_true_eq_false, not_false_eq_true, and_true, true_and, and_self, and_false, false_and, true_or, or_true, false_or, or_false, reduceIte]; done) | (simp [c_2]; done) | grind) (by first | rfl | (simp only [c_2, eq_self, ne_eq, not_true_eq_false, not_false_eq_true, and_true, true_and, and_self, and_false, false_and, true_or, or_true, false_or, or_false, reduceIte]; done) | (simp [c_2]; done))) (zIf_t (by first | assumption | (simp only [c_2, eq_self, ne_eq, not_true_eq_false, not_false_eq_true, and_true, true_and, and_self, and_false, false_and, true_or, or_true, false_or, or_false, reduceIte]; done) | (simp [c_2]; done) | grind) (by first | exact hN | (simpa only [c_2, eq_self, ne_eq, not_true_eq_false, not_false_eq_true, and_true, true_and, and_self, and_false, false_and, true_or, or_true, false_or, or_false, reduceIte] using hN) | (simpa [c_2] using hN))) dX4_restore_10
