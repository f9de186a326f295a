/-! rows laid by my own program (wip/whole/gen) -/
theorem in_X5_addSensor_X5 : ∀ w ∈ wsX50, w ∈ wsX5_addSensor := by decide +kernel
set_option maxHeartbeats 4000000 in
set_option maxRecDepth 100000 in
theorem p_X5_addSensor (l : Launch) (G : zG) (A : Nat → Prop) (ad : Nat → Nat) (hA : zAm G ad A) (th : Int32) (cp hf : Nat → Int32) (d : Nat) (hd : d ≤ 6) (sl sv : Nat → Int32) (n : Nat) (hn12 : n ≤ 12) (g : Nat → Int32) (τ : zT) (x y b : Int32) : zMi l G A yX5_addSensor wsX5_addSensor 1 23 [.ref (ad 0), .int x, .int y, .int b] (zMP G ad (th, cp, hf, nI d, sl, sv) n g τ) (if ¬ zC3 x y b then -1 else (if n = 12 then -3 else nI n)) (if ¬ zC3 x y b then (zMP G ad (0, cp, hf, nI d, sl, sv) n g τ) else (if n = 12 then (zMP G ad (0, cp, hf, nI d, sl, sv) n g τ) else (zMP G ad (0, cp, (zKf d (zMA n g τ) hf), nI (zKd d + 1), sl, sv) (n + 1) g (zNs τ n x y b)))) := by
  refine z_met (cc := cX5_addSensor) (maxL := 5) (ret := (some .int)) (by decide) rfl (Nat.le_of_ble_eq_true rfl) ?_
  intro p e s m below meth c ls S hr hlk hnm hM hK hl
  have S : CallFix p m c cX5_addSensor 5 s _ wsX5_addSensor RX5 := S
  obtain ⟨hx, hb, hml, hown, hts⟩ := id S
  have hS : va_S A s.heap s.heap [] := va_S.rf
  have hl : lv_has ls 5 [(0, .ref (ad 0)), (1, .int x), (2, .int y), (3, .int b)] := hl
  refine lv_aload_n hx hb dX5_addSensor_0 rfl (lv_at hl 0 rfl) ?_
  refine lv_iconst (v := 0) hx hb dX5_addSensor_1 (by decide) ?_
  refine z_putM (w := 0) hx hb hts hown in_X5_addSensor_X5 hK hA hS hM 0 (by decide) rfl (hts _ (List.mem_of_getElem? (i := 1) (by decide +kernel))) (by decide +kernel) rfl (0, cp, hf, nI d, sl, sv) rfl ⟨rfl, rfl, rfl⟩ dX5_addSensor_2 (fun H locs hM hS => ?_)
  have hM : zMP G ad (0, cp, hf, nI d, sl, sv) n g τ H := hM
  refine lv_iload_n hx hb dX5_addSensor_5 rfl (lv_at hl 1 rfl) ?_
  refine lv_iconst (v := 0) hx hb dX5_addSensor_6 (by decide) ?_
  refine lv_bipush (v := 99) hx hb dX5_addSensor_7 (by decide) ?_
  refine z_si (As := [.int x, .int 0, .int 99]) (rest := []) (P2 := zMP G ad (0, cp, hf, nI d, sl, sv) n g τ) (r := zBi (¬ x < 0 ∧ ¬ 99 < x)) S (c_X5_in l G A (zMP G ad (0, cp, hf, nI d, sl, sv) n g τ) x 0 99) (cwS 3 hts gX5_addSensor_X5_in rfl rfl rfl (by decide +kernel) ⟨Nat.le_of_ble_eq_true rfl, Nat.le_of_ble_eq_true rfl⟩) hM hK hS (fun _ _ h => h) (fun _ h => h) hl.1 rfl rfl (Nat.le_of_ble_eq_true rfl) dX5_addSensor_9 ⟨Nat.le_refl _, Nat.le_refl _⟩ (fun H locs hM hS _ => ?_)
  refine lv_if_eq (tgt := 35) hx hb dX5_addSensor_12 (by decide) (fun c_1 => ?_) (fun c_2 => ?_)
  · skip
    have c_1 := zBi_0.mp c_1
    refine lv_iconst (v := -1) hx hb dX5_addSensor_35 (by decide) ?_
    exact z_iretE hx hb hr hlk hK hS (zIr_t (by first | assumption | (simp only [zC3, zNs, c_1, eq_self, ne_eq, not_true_eq_false, not_false_eq_true, and_true, true_and, and_self, and_false, false_and, true_or, or_true, false_or, or_false, reduceIte]; done) | (simp [zC3, zNs, c_1]; done) | grind) (by first | rfl | (simp only [zC3, zNs, c_1, eq_self, ne_eq, not_true_eq_false, not_false_eq_true, and_true, true_and, and_self, and_false, false_and, true_or, or_true, false_or, or_false, reduceIte]; done) | (simp [zC3, zNs, c_1]; done))) (zIf_t (by first | assumption | (simp only [zC3, zNs, c_1, eq_self, ne_eq, not_true_eq_false, not_false_eq_true, and_true, true_and, and_self, and_false, false_and, true_or, or_true, false_or, or_false, reduceIte]; done) | (simp [zC3, zNs, c_1]; done) | grind) (by first | exact hM | (simpa only [zC3, zNs, c_1, eq_self, ne_eq, not_true_eq_false, not_false_eq_true, and_true, true_and, and_self, and_false, false_and, true_or, or_true, false_or, or_false, reduceIte] using hM) | (simpa [zC3, zNs, c_1] using hM))) dX5_addSensor_36
  · skip
    have c_2 := zBi_n0.mp c_2
    refine lv_iload_n hx hb dX5_addSensor_15 rfl (lv_at hl 2 rfl) ?_
    refine lv_iconst (v := 0) hx hb dX5_addSensor_16 (by decide) ?_
    refine lv_bipush (v := 99) hx hb dX5_addSensor_17 (by decide) ?_
    refine z_si (As := [.int y, .int 0, .int 99]) (rest := []) (P2 := zMP G ad (0, cp, hf, nI d, sl, sv) n g τ) (r := zBi (¬ y < 0 ∧ ¬ 99 < y)) S (c_X5_in l G A (zMP G ad (0, cp, hf, nI d, sl, sv) n g τ) y 0 99) (cwS 3 hts gX5_addSensor_X5_in rfl rfl rfl (by decide +kernel) ⟨Nat.le_of_ble_eq_true rfl, Nat.le_of_ble_eq_true rfl⟩) hM hK hS (fun _ _ h => h) (fun _ h => h) hl.1 rfl rfl (Nat.le_of_ble_eq_true rfl) dX5_addSensor_19 ⟨Nat.le_refl _, Nat.le_refl _⟩ (fun H locs hM hS _ => ?_)
    refine lv_if_eq (tgt := 35) hx hb dX5_addSensor_22 (by decide) (fun c_3 => ?_) (fun c_4 => ?_)
    · skip
      have c_3 := zBi_0.mp c_3
      refine lv_iconst (v := -1) hx hb dX5_addSensor_35 (by decide) ?_
      exact z_iretE hx hb hr hlk hK hS (zIr_t (by first | assumption | (simp only [zC3, zNs, c_2, c_3, eq_self, ne_eq, not_true_eq_false, not_false_eq_true, and_true, true_and, and_self, and_false, false_and, true_or, or_true, false_or, or_false, reduceIte]; done) | (simp [zC3, zNs, c_2, c_3]; done) | grind) (by first | rfl | (simp only [zC3, zNs, c_2, c_3, eq_self, ne_eq, not_true_eq_false, not_false_eq_true, and_true, true_and, and_self, and_false, false_and, true_or, or_true, false_or, or_false, reduceIte]; done) | (simp [zC3, zNs, c_2, c_3]; done))) (zIf_t (by first | assumption | (simp only [zC3, zNs, c_2, c_3, eq_self, ne_eq, not_true_eq_false, not_false_eq_true, and_true, true_and, and_self, and_false, false_and, true_or, or_true, false_or, or_false, reduceIte]; done) | (simp [zC3, zNs, c_2, c_3]; done) | grind) (by first | exact hM | (simpa only [zC3, zNs, c_2, c_3, eq_self, ne_eq, not_true_eq_false, not_false_eq_true, and_true, true_and, and_self, and_false, false_and, true_or, or_true, false_or, or_false, reduceIte] using hM) | (simpa [zC3, zNs, c_2, c_3] using hM))) dX5_addSensor_36
    · skip
      have c_4 := zBi_n0.mp c_4
      refine lv_iload_n hx hb dX5_addSensor_25 rfl (lv_at hl 3 rfl) ?_
      refine lv_iconst (v := 0) hx hb dX5_addSensor_26 (by decide) ?_
      refine lv_ldc (v := 100000) hx hb hown (hts _ (List.mem_of_getElem? (i := 2) (by decide +kernel))) dX5_addSensor_27 ?_
      refine z_si (As := [.int b, .int 0, .int 100000]) (rest := []) (P2 := zMP G ad (0, cp, hf, nI d, sl, sv) n g τ) (r := zBi (¬ b < 0 ∧ ¬ 100000 < b)) S (c_X5_in l G A (zMP G ad (0, cp, hf, nI d, sl, sv) n g τ) b 0 100000) (cwS 3 hts gX5_addSensor_X5_in rfl rfl rfl (by decide +kernel) ⟨Nat.le_of_ble_eq_true rfl, Nat.le_of_ble_eq_true rfl⟩) hM hK hS (fun _ _ h => h) (fun _ h => h) hl.1 rfl rfl (Nat.le_of_ble_eq_true rfl) dX5_addSensor_29 ⟨Nat.le_refl _, Nat.le_refl _⟩ (fun H locs hM hS _ => ?_)
      refine lv_if_ne (tgt := 37) hx hb dX5_addSensor_32 (by decide) (fun c_5 => ?_) (fun c_6 => ?_)
      · skip
        have c_5 := zBi_n0.mp c_5
        refine lv_aload_n hx hb dX5_addSensor_37 rfl (lv_at hl 0 rfl) ?_
        refine z_getM (v := .ref (ad 1)) hx hb hts hown in_X5_addSensor_X5 hK hM 1 (by decide) rfl (hts _ (List.mem_of_getElem? (i := 3) (by decide +kernel))) rfl dX5_addSensor_38 ?_
        refine lv_iconst (v := 0) hx hb dX5_addSensor_41 (by decide) ?_
        refine z_ldM (w := nI n) hx hb hK hM 1 rfl 0 (by decide) (by decide) (by decide) rfl dX5_addSensor_42 ?_
        refine lv_bipush (v := 12) hx hb dX5_addSensor_43 (by decide) ?_
        refine lv_icmp_ne (tgt := 51) hx hb dX5_addSensor_45 (by decide) (fun c_7 => ?_) (fun c_8 => ?_)
        · skip
          have c_7 := (not_congr (z_eqI (a := n) (b := 12) (by omega) (by omega))).mp c_7
          refine lv_aload_n hx hb dX5_addSensor_51 rfl (lv_at hl 0 rfl) ?_
          refine z_vv (As := []) (rest := []) (P2 := zMP G ad (0, cp, (zKf d (zMA n g τ) hf), nI (zKd d + 1), sl, sv) n g τ) S (r_X5_keep l G A ad hA 0 cp hf d hd sl sv (zMA n g τ) (zEr τ) (τ 9)) (cwV 0 hts gX5_addSensor_X5_keep rfl rfl rfl (by decide +kernel) ⟨Nat.le_of_ble_eq_true rfl, Nat.le_of_ble_eq_true rfl⟩) (z_recM hK hM) hM hK hS (fun _ _ h => h) (fun _ h => h) hl.1 rfl rfl (Nat.le_of_ble_eq_true rfl) dX5_addSensor_52 ⟨Nat.le_refl _, Nat.le_refl _⟩ (fun H locs hM hS _ => ?_)
          refine lv_aload_n hx hb dX5_addSensor_55 rfl (lv_at hl 0 rfl) ?_
          refine z_getM (v := .ref (ad 1)) hx hb hts hown in_X5_addSensor_X5 hK hM 1 (by decide) rfl (hts _ (List.mem_of_getElem? (i := 3) (by decide +kernel))) rfl dX5_addSensor_56 ?_
          refine lv_iconst (v := 0) hx hb dX5_addSensor_59 (by decide) ?_
          refine z_ldM (w := nI n) hx hb hK hM 1 rfl 0 (by decide) (by decide) (by decide) rfl dX5_addSensor_60 ?_
          refine lv_istore (lv' := [(4, .int (nI n)), (0, .ref (ad 0)), (1, .int x), (2, .int y), (3, .int b)]) hx hb dX5_addSensor_61 hl (by decide) rfl (fun ls hl => ?_)
          refine lv_aload_n hx hb dX5_addSensor_63 rfl (lv_at hl 1 rfl) ?_
          refine lv_iload hx hb dX5_addSensor_64 (lv_at hl 0 rfl) ?_
          refine lv_iconst (v := 0) hx hb dX5_addSensor_66 (by decide) ?_
          refine lv_iload_n hx hb dX5_addSensor_67 rfl (lv_at hl 2 rfl) ?_
          refine z_vv (As := [.int (nI n), .int 0, .int x]) (rest := []) (P2 := zMP G ad (0, cp, (zKf d (zMA n g τ) hf), nI (zKd d + 1), sl, sv) n g (zSt τ 0 n x)) S (c_X5_set l G A ad (0, cp, (zKf d (zMA n g τ) hf), nI (zKd d + 1), sl, sv) n g hA hn12  τ n 0 (by omega) (by omega) x) (cwV 3 hts gX5_addSensor_X5_set rfl rfl rfl (by decide +kernel) ⟨Nat.le_of_ble_eq_true rfl, Nat.le_of_ble_eq_true rfl⟩) (z_recM hK hM) hM hK hS (fun _ _ h => h) (fun _ h => h) hl.1 rfl rfl (Nat.le_of_ble_eq_true rfl) dX5_addSensor_68 ⟨Nat.le_refl _, Nat.le_refl _⟩ (fun H locs hM hS _ => ?_)
          refine lv_aload_n hx hb dX5_addSensor_71 rfl (lv_at hl 1 rfl) ?_
          refine lv_iload hx hb dX5_addSensor_72 (lv_at hl 0 rfl) ?_
          refine lv_iconst (v := 1) hx hb dX5_addSensor_74 (by decide) ?_
          refine lv_iload_n hx hb dX5_addSensor_75 rfl (lv_at hl 3 rfl) ?_
          refine z_vv (As := [.int (nI n), .int 1, .int y]) (rest := []) (P2 := zMP G ad (0, cp, (zKf d (zMA n g τ) hf), nI (zKd d + 1), sl, sv) n g (zSt (zSt τ 0 n x) 1 n y)) S (c_X5_set l G A ad (0, cp, (zKf d (zMA n g τ) hf), nI (zKd d + 1), sl, sv) n g hA hn12  (zSt τ 0 n x) n 1 (by omega) (by omega) y) (cwV 3 hts gX5_addSensor_X5_set rfl rfl rfl (by decide +kernel) ⟨Nat.le_of_ble_eq_true rfl, Nat.le_of_ble_eq_true rfl⟩) (z_recM hK hM) hM hK hS (fun _ _ h => h) (fun _ h => h) hl.1 rfl rfl (Nat.le_of_ble_eq_true rfl) dX5_addSensor_76 ⟨Nat.le_refl _, Nat.le_refl _⟩ (fun H locs hM hS _ => ?_)
          refine lv_aload_n hx hb dX5_addSensor_79 rfl (lv_at hl 1 rfl) ?_
          refine lv_iload hx hb dX5_addSensor_80 (lv_at hl 0 rfl) ?_
          refine lv_iconst (v := 2) hx hb dX5_addSensor_82 (by decide) ?_
          refine lv_iload_n hx hb dX5_addSensor_83 rfl (lv_at hl 4 rfl) ?_
          refine z_vv (As := [.int (nI n), .int 2, .int b]) (rest := []) (P2 := zMP G ad (0, cp, (zKf d (zMA n g τ) hf), nI (zKd d + 1), sl, sv) n g (zSt (zSt (zSt τ 0 n x) 1 n y) 2 n b)) S (c_X5_set l G A ad (0, cp, (zKf d (zMA n g τ) hf), nI (zKd d + 1), sl, sv) n g hA hn12  (zSt (zSt τ 0 n x) 1 n y) n 2 (by omega) (by omega) b) (cwV 3 hts gX5_addSensor_X5_set rfl rfl rfl (by decide +kernel) ⟨Nat.le_of_ble_eq_true rfl, Nat.le_of_ble_eq_true rfl⟩) (z_recM hK hM) hM hK hS (fun _ _ h => h) (fun _ h => h) hl.1 rfl rfl (Nat.le_of_ble_eq_true rfl) dX5_addSensor_84 ⟨Nat.le_refl _, Nat.le_refl _⟩ (fun H locs hM hS _ => ?_)
          refine lv_aload_n hx hb dX5_addSensor_87 rfl (lv_at hl 1 rfl) ?_
          refine lv_iload hx hb dX5_addSensor_88 (lv_at hl 0 rfl) ?_
          refine lv_iconst (v := 3) hx hb dX5_addSensor_90 (by decide) ?_
          refine lv_iconst (v := 1) hx hb dX5_addSensor_91 (by decide) ?_
          refine z_vv (As := [.int (nI n), .int 3, .int 1]) (rest := []) (P2 := zMP G ad (0, cp, (zKf d (zMA n g τ) hf), nI (zKd d + 1), sl, sv) n g (zSt (zSt (zSt (zSt τ 0 n x) 1 n y) 2 n b) 3 n 1)) S (c_X5_set l G A ad (0, cp, (zKf d (zMA n g τ) hf), nI (zKd d + 1), sl, sv) n g hA hn12  (zSt (zSt (zSt τ 0 n x) 1 n y) 2 n b) n 3 (by omega) (by omega) 1) (cwV 3 hts gX5_addSensor_X5_set rfl rfl rfl (by decide +kernel) ⟨Nat.le_of_ble_eq_true rfl, Nat.le_of_ble_eq_true rfl⟩) (z_recM hK hM) hM hK hS (fun _ _ h => h) (fun _ h => h) hl.1 rfl rfl (Nat.le_of_ble_eq_true rfl) dX5_addSensor_92 ⟨Nat.le_refl _, Nat.le_refl _⟩ (fun H locs hM hS _ => ?_)
          refine lv_aload_n hx hb dX5_addSensor_95 rfl (lv_at hl 1 rfl) ?_
          refine lv_iload hx hb dX5_addSensor_96 (lv_at hl 0 rfl) ?_
          refine lv_iconst (v := 4) hx hb dX5_addSensor_98 (by decide) ?_
          refine lv_iconst (v := 1) hx hb dX5_addSensor_99 (by decide) ?_
          refine z_vv (As := [.int (nI n), .int 4, .int 1]) (rest := []) (P2 := zMP G ad (0, cp, (zKf d (zMA n g τ) hf), nI (zKd d + 1), sl, sv) n g (zSt (zSt (zSt (zSt (zSt τ 0 n x) 1 n y) 2 n b) 3 n 1) 4 n 1)) S (c_X5_set l G A ad (0, cp, (zKf d (zMA n g τ) hf), nI (zKd d + 1), sl, sv) n g hA hn12  (zSt (zSt (zSt (zSt τ 0 n x) 1 n y) 2 n b) 3 n 1) n 4 (by omega) (by omega) 1) (cwV 3 hts gX5_addSensor_X5_set rfl rfl rfl (by decide +kernel) ⟨Nat.le_of_ble_eq_true rfl, Nat.le_of_ble_eq_true rfl⟩) (z_recM hK hM) hM hK hS (fun _ _ h => h) (fun _ h => h) hl.1 rfl rfl (Nat.le_of_ble_eq_true rfl) dX5_addSensor_100 ⟨Nat.le_refl _, Nat.le_refl _⟩ (fun H locs hM hS _ => ?_)
          refine lv_aload_n hx hb dX5_addSensor_103 rfl (lv_at hl 1 rfl) ?_
          refine lv_iload hx hb dX5_addSensor_104 (lv_at hl 0 rfl) ?_
          refine lv_iconst (v := 5) hx hb dX5_addSensor_106 (by decide) ?_
          refine lv_iconst (v := 0) hx hb dX5_addSensor_107 (by decide) ?_
          refine z_vv (As := [.int (nI n), .int 5, .int 0]) (rest := []) (P2 := zMP G ad (0, cp, (zKf d (zMA n g τ) hf), nI (zKd d + 1), sl, sv) n g (zSt (zSt (zSt (zSt (zSt (zSt τ 0 n x) 1 n y) 2 n b) 3 n 1) 4 n 1) 5 n 0)) S (c_X5_set l G A ad (0, cp, (zKf d (zMA n g τ) hf), nI (zKd d + 1), sl, sv) n g hA hn12  (zSt (zSt (zSt (zSt (zSt τ 0 n x) 1 n y) 2 n b) 3 n 1) 4 n 1) n 5 (by omega) (by omega) 0) (cwV 3 hts gX5_addSensor_X5_set rfl rfl rfl (by decide +kernel) ⟨Nat.le_of_ble_eq_true rfl, Nat.le_of_ble_eq_true rfl⟩) (z_recM hK hM) hM hK hS (fun _ _ h => h) (fun _ h => h) hl.1 rfl rfl (Nat.le_of_ble_eq_true rfl) dX5_addSensor_108 ⟨Nat.le_refl _, Nat.le_refl _⟩ (fun H locs hM hS _ => ?_)
          refine lv_aload_n hx hb dX5_addSensor_111 rfl (lv_at hl 1 rfl) ?_
          refine lv_iload hx hb dX5_addSensor_112 (lv_at hl 0 rfl) ?_
          refine lv_bipush (v := 6) hx hb dX5_addSensor_114 (by decide) ?_
          refine lv_bipush (v := -9) hx hb dX5_addSensor_116 (by decide) ?_
          refine z_vv (As := [.int (nI n), .int 6, .int (-9)]) (rest := []) (P2 := zMP G ad (0, cp, (zKf d (zMA n g τ) hf), nI (zKd d + 1), sl, sv) n g (zSt (zSt (zSt (zSt (zSt (zSt (zSt τ 0 n x) 1 n y) 2 n b) 3 n 1) 4 n 1) 5 n 0) 6 n (-9))) S (c_X5_set l G A ad (0, cp, (zKf d (zMA n g τ) hf), nI (zKd d + 1), sl, sv) n g hA hn12  (zSt (zSt (zSt (zSt (zSt (zSt τ 0 n x) 1 n y) 2 n b) 3 n 1) 4 n 1) 5 n 0) n 6 (by omega) (by omega) (-9)) (cwV 3 hts gX5_addSensor_X5_set rfl rfl rfl (by decide +kernel) ⟨Nat.le_of_ble_eq_true rfl, Nat.le_of_ble_eq_true rfl⟩) (z_recM hK hM) hM hK hS (fun _ _ h => h) (fun _ h => h) hl.1 rfl rfl (Nat.le_of_ble_eq_true rfl) dX5_addSensor_118 ⟨Nat.le_refl _, Nat.le_refl _⟩ (fun H locs hM hS _ => ?_)
          refine lv_aload_n hx hb dX5_addSensor_121 rfl (lv_at hl 1 rfl) ?_
          refine lv_iload hx hb dX5_addSensor_122 (lv_at hl 0 rfl) ?_
          refine lv_bipush (v := 7) hx hb dX5_addSensor_124 (by decide) ?_
          refine lv_bipush (v := -9) hx hb dX5_addSensor_126 (by decide) ?_
          refine z_vv (As := [.int (nI n), .int 7, .int (-9)]) (rest := []) (P2 := zMP G ad (0, cp, (zKf d (zMA n g τ) hf), nI (zKd d + 1), sl, sv) n g (zSt (zSt (zSt (zSt (zSt (zSt (zSt (zSt τ 0 n x) 1 n y) 2 n b) 3 n 1) 4 n 1) 5 n 0) 6 n (-9)) 7 n (-9))) S (c_X5_set l G A ad (0, cp, (zKf d (zMA n g τ) hf), nI (zKd d + 1), sl, sv) n g hA hn12  (zSt (zSt (zSt (zSt (zSt (zSt (zSt τ 0 n x) 1 n y) 2 n b) 3 n 1) 4 n 1) 5 n 0) 6 n (-9)) n 7 (by omega) (by omega) (-9)) (cwV 3 hts gX5_addSensor_X5_set rfl rfl rfl (by decide +kernel) ⟨Nat.le_of_ble_eq_true rfl, Nat.le_of_ble_eq_true rfl⟩) (z_recM hK hM) hM hK hS (fun _ _ h => h) (fun _ h => h) hl.1 rfl rfl (Nat.le_of_ble_eq_true rfl) dX5_addSensor_128 ⟨Nat.le_refl _, Nat.le_refl _⟩ (fun H locs hM hS _ => ?_)
          refine lv_aload_n hx hb dX5_addSensor_131 rfl (lv_at hl 1 rfl) ?_
          refine lv_iload hx hb dX5_addSensor_132 (lv_at hl 0 rfl) ?_
          refine lv_bipush (v := 8) hx hb dX5_addSensor_134 (by decide) ?_
          refine lv_bipush (v := -9) hx hb dX5_addSensor_136 (by decide) ?_
          refine z_vv (As := [.int (nI n), .int 8, .int (-9)]) (rest := []) (P2 := zMP G ad (0, cp, (zKf d (zMA n g τ) hf), nI (zKd d + 1), sl, sv) n g (zSt (zSt (zSt (zSt (zSt (zSt (zSt (zSt (zSt τ 0 n x) 1 n y) 2 n b) 3 n 1) 4 n 1) 5 n 0) 6 n (-9)) 7 n (-9)) 8 n (-9))) S (c_X5_set l G A ad (0, cp, (zKf d (zMA n g τ) hf), nI (zKd d + 1), sl, sv) n g hA hn12  (zSt (zSt (zSt (zSt (zSt (zSt (zSt (zSt τ 0 n x) 1 n y) 2 n b) 3 n 1) 4 n 1) 5 n 0) 6 n (-9)) 7 n (-9)) n 8 (by omega) (by omega) (-9)) (cwV 3 hts gX5_addSensor_X5_set rfl rfl rfl (by decide +kernel) ⟨Nat.le_of_ble_eq_true rfl, Nat.le_of_ble_eq_true rfl⟩) (z_recM hK hM) hM hK hS (fun _ _ h => h) (fun _ h => h) hl.1 rfl rfl (Nat.le_of_ble_eq_true rfl) dX5_addSensor_138 ⟨Nat.le_refl _, Nat.le_refl _⟩ (fun H locs hM hS _ => ?_)
          refine lv_aload_n hx hb dX5_addSensor_141 rfl (lv_at hl 1 rfl) ?_
          refine z_getM (v := .ref (ad 1)) hx hb hts hown in_X5_addSensor_X5 hK hM 1 (by decide) rfl (hts _ (List.mem_of_getElem? (i := 3) (by decide +kernel))) rfl dX5_addSensor_142 ?_
          refine lv_iconst (v := 0) hx hb dX5_addSensor_145 (by decide) ?_
          refine lv_dup2_11 hx hb dX5_addSensor_146 rfl rfl ?_
          refine z_ldM (w := nI n) hx hb hK hM 1 rfl 0 (by decide) (by decide) (by decide) rfl dX5_addSensor_147 ?_
          refine lv_iconst (v := 1) hx hb dX5_addSensor_148 (by decide) ?_
          refine lv_iadd hx hb dX5_addSensor_149 ?_
          refine z_top (x2 := nI (n + 1)) (nI_add n 1) ?_
          refine z_stM (w := nI (n + 1)) hx hb hK hA hS hM 1 rfl 0 (by decide) (by decide) (by decide) (zMP G ad (0, cp, (zKf d (zMA n g τ) hf), nI (zKd d + 1), sl, sv) (n + 1) g (zSt (zSt (zSt (zSt (zSt (zSt (zSt (zSt (zSt τ 0 n x) 1 n y) 2 n b) 3 n 1) 4 n 1) 5 n 0) 6 n (-9)) 7 n (-9)) 8 n (-9))) (z_mn G ad (0, cp, (zKf d (zMA n g τ) hf), nI (zKd d + 1), sl, sv) n (n + 1) g (zSt (zSt (zSt (zSt (zSt (zSt (zSt (zSt (zSt τ 0 n x) 1 n y) 2 n b) 3 n 1) 4 n 1) 5 n 0) 6 n (-9)) 7 n (-9)) 8 n (-9))) dX5_addSensor_150 (fun H locs hM hS => ?_)
          refine lv_iload hx hb dX5_addSensor_151 (lv_at hl 0 rfl) ?_
          exact z_iretE hx hb hr hlk hK hS (zIr_n (by first | assumption | (simp only [zC3, zNs, c_2, c_4, c_5, c_7, eq_self, ne_eq, not_true_eq_false, not_false_eq_true, and_true, true_and, and_self, and_false, false_and, true_or, or_true, false_or, or_false, reduceIte]; done) | (simp [zC3, zNs, c_2, c_4, c_5, c_7]; done) | grind) (zIr_n (by first | assumption | (simp only [zC3, zNs, c_2, c_4, c_5, c_7, eq_self, ne_eq, not_true_eq_false, not_false_eq_true, and_true, true_and, and_self, and_false, false_and, true_or, or_true, false_or, or_false, reduceIte]; done) | (simp [zC3, zNs, c_2, c_4, c_5, c_7]; done) | grind) (by first | rfl | (simp only [zC3, zNs, c_2, c_4, c_5, c_7, eq_self, ne_eq, not_true_eq_false, not_false_eq_true, and_true, true_and, and_self, and_false, false_and, true_or, or_true, false_or, or_false, reduceIte]; done) | (simp [zC3, zNs, c_2, c_4, c_5, c_7]; done)))) (zIf_n (by first | assumption | (simp only [zC3, zNs, c_2, c_4, c_5, c_7, eq_self, ne_eq, not_true_eq_false, not_false_eq_true, and_true, true_and, and_self, and_false, false_and, true_or, or_true, false_or, or_false, reduceIte]; done) | (simp [zC3, zNs, c_2, c_4, c_5, c_7]; done) | grind) (zIf_n (by first | assumption | (simp only [zC3, zNs, c_2, c_4, c_5, c_7, eq_self, ne_eq, not_true_eq_false, not_false_eq_true, and_true, true_and, and_self, and_false, false_and, true_or, or_true, false_or, or_false, reduceIte]; done) | (simp [zC3, zNs, c_2, c_4, c_5, c_7]; done) | grind) (by first | exact hM | (simpa only [zC3, zNs, c_2, c_4, c_5, c_7, eq_self, ne_eq, not_true_eq_false, not_false_eq_true, and_true, true_and, and_self, and_false, false_and, true_or, or_true, false_or, or_false, reduceIte] using hM) | (simpa [zC3, zNs, c_2, c_4, c_5, c_7] using hM)))) dX5_addSensor_153
        · skip
          have c_8 := (z_eqI (a := n) (b := 12) (by omega) (by omega)).mp c_8
          refine lv_bipush (v := -3) hx hb dX5_addSensor_48 (by decide) ?_
          exact z_iretE hx hb hr hlk hK hS (zIr_n (by first | assumption | (simp only [zC3, zNs, c_2, c_4, c_5, c_8, eq_self, ne_eq, not_true_eq_false, not_false_eq_true, and_true, true_and, and_self, and_false, false_and, true_or, or_true, false_or, or_false, reduceIte]; done) | (simp [zC3, zNs, c_2, c_4, c_5, c_8]; done) | grind) (zIr_t (by first | assumption | (simp only [zC3, zNs, c_2, c_4, c_5, c_8, eq_self, ne_eq, not_true_eq_false, not_false_eq_true, and_true, true_and, and_self, and_false, false_and, true_or, or_true, false_or, or_false, reduceIte]; done) | (simp [zC3, zNs, c_2, c_4, c_5, c_8]; done) | grind) (by first | rfl | (simp only [zC3, zNs, c_2, c_4, c_5, c_8, eq_self, ne_eq, not_true_eq_false, not_false_eq_true, and_true, true_and, and_self, and_false, false_and, true_or, or_true, false_or, or_false, reduceIte]; done) | (simp [zC3, zNs, c_2, c_4, c_5, c_8]; done)))) (zIf_n (by first | assumption | (simp only [zC3, zNs, c_2, c_4, c_5, c_8, eq_self, ne_eq, not_true_eq_false, not_false_eq_true, and_true, true_and, and_self, and_false, false_and, true_or, or_true, false_or, or_false, reduceIte]; done) | (simp [zC3, zNs, c_2, c_4, c_5, c_8]; done) | grind) (zIf_t (by first | assumption | (simp only [zC3, zNs, c_2, c_4, c_5, c_8, eq_self, ne_eq, not_true_eq_false, not_false_eq_true, and_true, true_and, and_self, and_false, false_and, true_or, or_true, false_or, or_false, reduceIte]; done) | (simp [zC3, zNs, c_2, c_4, c_5, c_8]; done) | grind) (by first | exact hM | (simpa only [zC3, zNs, c_2, c_4, c_5, c_8, eq_self, ne_eq, not_true_eq_false, not_false_eq_true, and_true, true_and, and_self, and_false, false_and, true_or, or_true, false_or, or_false, reduceIte] using hM) | (simpa [zC3, zNs, c_2, c_4, c_5, c_8] using hM)))) dX5_addSensor_50
      · skip
        have c_6 := zBi_0.mp c_6
        refine lv_iconst (v := -1) hx hb dX5_addSensor_35 (by decide) ?_
        exact z_iretE hx hb hr hlk hK hS (zIr_t (by first | assumption | (simp only [zC3, zNs, c_2, c_4, c_6, eq_self, ne_eq, not_true_eq_false, not_false_eq_true, and_true, true_and, and_self, and_false, false_and, true_or, or_true, false_or, or_false, reduceIte]; done) | (simp [zC3, zNs, c_2, c_4, c_6]; done) | grind) (by first | rfl | (simp only [zC3, zNs, c_2, c_4, c_6, eq_self, ne_eq, not_true_eq_false, not_false_eq_true, and_true, true_and, and_self, and_false, false_and, true_or, or_true, false_or, or_false, reduceIte]; done) | (simp [zC3, zNs, c_2, c_4, c_6]; done))) (zIf_t (by first | assumption | (simp only [zC3, zNs, c_2, c_4, c_6, eq_self, ne_eq, not_true_eq_false, not_false_eq_true, and_true, true_and, and_self, and_false, false_and, true_or, or_true, false_or, or_false, reduceIte]; done) | (simp [zC3, zNs, c_2, c_4, c_6]; done) | grind) (by first | exact hM | (simpa only [zC3, zNs, c_2, c_4, c_6, eq_self, ne_eq, not_true_eq_false, not_false_eq_true, and_true, true_and, and_self, and_false, false_and, true_or, or_true, false_or, or_false, reduceIte] using hM) | (simpa [zC3, zNs, c_2, c_4, c_6] using hM))) dX5_addSensor_36

theorem in_X5_moveBase_X5 : ∀ w ∈ wsX50, w ∈ wsX5_moveBase := by decide +kernel
set_option maxHeartbeats 4000000 in
set_option maxRecDepth 100000 in
theorem p_X5_moveBase (l : Launch) (G : zG) (A : Nat → Prop) (ad : Nat → Nat) (hA : zAm G ad A) (th : Int32) (cp hf : Nat → Int32) (d : Nat) (hd : d ≤ 6) (sl sv : Nat → Int32) (n : Nat) (hn12 : n ≤ 12) (g : Nat → Int32) (τ : zT) (x y : Int32) : zMi l G A yX5_moveBase wsX5_moveBase 1 22 [.ref (ad 0), .int x, .int y] (zMP G ad (th, cp, hf, nI d, sl, sv) n g τ) (if ¬ ((¬ x < 0 ∧ ¬ 199 < x) ∧ (¬ y < 0 ∧ ¬ 199 < y)) then -1 else 200 * g 1 + g 2) (if ¬ ((¬ x < 0 ∧ ¬ 199 < x) ∧ (¬ y < 0 ∧ ¬ 199 < y)) then (zMP G ad (0, cp, hf, nI d, sl, sv) n g τ) else (zMP G ad (0, cp, (zKf d (zMA n g τ) hf), nI (zKd d + 1), sl, sv) n (upd (upd g 1 x) 2 y) τ)) := by
  refine z_met (cc := cX5_moveBase) (maxL := 4) (ret := (some .int)) (by decide) rfl (Nat.le_of_ble_eq_true rfl) ?_
  intro p e s m below meth c ls S hr hlk hnm hM hK hl
  have S : CallFix p m c cX5_moveBase 4 s _ wsX5_moveBase RX5 := S
  obtain ⟨hx, hb, hml, hown, hts⟩ := id S
  have hS : va_S A s.heap s.heap [] := va_S.rf
  have hl : lv_has ls 4 [(0, .ref (ad 0)), (1, .int x), (2, .int y)] := hl
  refine lv_aload_n hx hb dX5_moveBase_0 rfl (lv_at hl 0 rfl) ?_
  refine lv_iconst (v := 0) hx hb dX5_moveBase_1 (by decide) ?_
  refine z_putM (w := 0) hx hb hts hown in_X5_moveBase_X5 hK hA hS hM 0 (by decide) rfl (hts _ (List.mem_of_getElem? (i := 1) (by decide +kernel))) (by decide +kernel) rfl (0, cp, hf, nI d, sl, sv) rfl ⟨rfl, rfl, rfl⟩ dX5_moveBase_2 (fun H locs hM hS => ?_)
  have hM : zMP G ad (0, cp, hf, nI d, sl, sv) n g τ H := hM
  refine lv_iload_n hx hb dX5_moveBase_5 rfl (lv_at hl 1 rfl) ?_
  refine lv_iconst (v := 0) hx hb dX5_moveBase_6 (by decide) ?_
  refine lv_sipush (v := 199) hx hb dX5_moveBase_7 (by decide) ?_
  refine z_si (As := [.int x, .int 0, .int 199]) (rest := []) (P2 := zMP G ad (0, cp, hf, nI d, sl, sv) n g τ) (r := zBi (¬ x < 0 ∧ ¬ 199 < x)) S (c_X5_in l G A (zMP G ad (0, cp, hf, nI d, sl, sv) n g τ) x 0 199) (cwS 3 hts gX5_moveBase_X5_in rfl rfl rfl (by decide +kernel) ⟨Nat.le_of_ble_eq_true rfl, Nat.le_of_ble_eq_true rfl⟩) hM hK hS (fun _ _ h => h) (fun _ h => h) hl.1 rfl rfl (Nat.le_of_ble_eq_true rfl) dX5_moveBase_10 ⟨Nat.le_refl _, Nat.le_refl _⟩ (fun H locs hM hS _ => ?_)
  refine lv_if_eq (tgt := 27) hx hb dX5_moveBase_13 (by decide) (fun c_1 => ?_) (fun c_2 => ?_)
  · skip
    have c_1 := zBi_0.mp c_1
    refine lv_iconst (v := -1) hx hb dX5_moveBase_27 (by decide) ?_
    exact z_iretE hx hb hr hlk hK hS (zIr_t (by first | assumption | (simp only [c_1, eq_self, ne_eq, not_true_eq_false, not_false_eq_true, and_true, true_and, and_self, and_false, false_and, true_or, or_true, false_or, or_false, reduceIte]; done) | (simp [c_1]; done) | grind) (by first | rfl | (simp only [c_1, eq_self, ne_eq, not_true_eq_false, not_false_eq_true, and_true, true_and, and_self, and_false, false_and, true_or, or_true, false_or, or_false, reduceIte]; done) | (simp [c_1]; done))) (zIf_t (by first | assumption | (simp only [c_1, eq_self, ne_eq, not_true_eq_false, not_false_eq_true, and_true, true_and, and_self, and_false, false_and, true_or, or_true, false_or, or_false, reduceIte]; done) | (simp [c_1]; done) | grind) (by first | exact hM | (simpa only [c_1, eq_self, ne_eq, not_true_eq_false, not_false_eq_true, and_true, true_and, and_self, and_false, false_and, true_or, or_true, false_or, or_false, reduceIte] using hM) | (simpa [c_1] using hM))) dX5_moveBase_28
  · skip
    have c_2 := zBi_n0.mp c_2
    refine lv_iload_n hx hb dX5_moveBase_16 rfl (lv_at hl 2 rfl) ?_
    refine lv_iconst (v := 0) hx hb dX5_moveBase_17 (by decide) ?_
    refine lv_sipush (v := 199) hx hb dX5_moveBase_18 (by decide) ?_
    refine z_si (As := [.int y, .int 0, .int 199]) (rest := []) (P2 := zMP G ad (0, cp, hf, nI d, sl, sv) n g τ) (r := zBi (¬ y < 0 ∧ ¬ 199 < y)) S (c_X5_in l G A (zMP G ad (0, cp, hf, nI d, sl, sv) n g τ) y 0 199) (cwS 3 hts gX5_moveBase_X5_in rfl rfl rfl (by decide +kernel) ⟨Nat.le_of_ble_eq_true rfl, Nat.le_of_ble_eq_true rfl⟩) hM hK hS (fun _ _ h => h) (fun _ h => h) hl.1 rfl rfl (Nat.le_of_ble_eq_true rfl) dX5_moveBase_21 ⟨Nat.le_refl _, Nat.le_refl _⟩ (fun H locs hM hS _ => ?_)
    refine lv_if_ne (tgt := 29) hx hb dX5_moveBase_24 (by decide) (fun c_3 => ?_) (fun c_4 => ?_)
    · skip
      have c_3 := zBi_n0.mp c_3
      refine lv_aload_n hx hb dX5_moveBase_29 rfl (lv_at hl 0 rfl) ?_
      refine z_vv (As := []) (rest := []) (P2 := zMP G ad (0, cp, (zKf d (zMA n g τ) hf), nI (zKd d + 1), sl, sv) n g τ) S (r_X5_keep l G A ad hA 0 cp hf d hd sl sv (zMA n g τ) (zEr τ) (τ 9)) (cwV 0 hts gX5_moveBase_X5_keep rfl rfl rfl (by decide +kernel) ⟨Nat.le_of_ble_eq_true rfl, Nat.le_of_ble_eq_true rfl⟩) (z_recM hK hM) hM hK hS (fun _ _ h => h) (fun _ h => h) hl.1 rfl rfl (Nat.le_of_ble_eq_true rfl) dX5_moveBase_30 ⟨Nat.le_refl _, Nat.le_refl _⟩ (fun H locs hM hS _ => ?_)
      refine lv_sipush (v := 200) hx hb dX5_moveBase_33 (by decide) ?_
      refine lv_aload_n hx hb dX5_moveBase_36 rfl (lv_at hl 0 rfl) ?_
      refine z_getM (v := .ref (ad 1)) hx hb hts hown in_X5_moveBase_X5 hK hM 1 (by decide) rfl (hts _ (List.mem_of_getElem? (i := 2) (by decide +kernel))) rfl dX5_moveBase_37 ?_
      refine lv_iconst (v := 1) hx hb dX5_moveBase_40 (by decide) ?_
      refine z_ldM (w := g 1) hx hb hK hM 1 rfl 1 (by decide) (by decide) (by decide) rfl dX5_moveBase_41 ?_
      refine lv_imul hx hb dX5_moveBase_42 ?_
      refine lv_aload_n hx hb dX5_moveBase_43 rfl (lv_at hl 0 rfl) ?_
      refine z_getM (v := .ref (ad 1)) hx hb hts hown in_X5_moveBase_X5 hK hM 1 (by decide) rfl (hts _ (List.mem_of_getElem? (i := 2) (by decide +kernel))) rfl dX5_moveBase_44 ?_
      refine lv_iconst (v := 2) hx hb dX5_moveBase_47 (by decide) ?_
      refine z_ldM (w := g 2) hx hb hK hM 1 rfl 2 (by decide) (by decide) (by decide) rfl dX5_moveBase_48 ?_
      refine lv_iadd hx hb dX5_moveBase_49 ?_
      refine lv_istore_n (lv' := [(3, .int ((200 * (g 1)) + (g 2))), (0, .ref (ad 0)), (1, .int x), (2, .int y)]) hx hb dX5_moveBase_50 rfl hl (by decide) rfl (fun ls hl => ?_)
      refine lv_aload_n hx hb dX5_moveBase_51 rfl (lv_at hl 1 rfl) ?_
      refine z_getM (v := .ref (ad 1)) hx hb hts hown in_X5_moveBase_X5 hK hM 1 (by decide) rfl (hts _ (List.mem_of_getElem? (i := 2) (by decide +kernel))) rfl dX5_moveBase_52 ?_
      refine lv_iconst (v := 1) hx hb dX5_moveBase_55 (by decide) ?_
      refine lv_iload_n hx hb dX5_moveBase_56 rfl (lv_at hl 2 rfl) ?_
      refine z_stM (w := x) hx hb hK hA hS hM 1 rfl 1 (by decide) (by decide) (by decide) (zMP G ad (0, cp, (zKf d (zMA n g τ) hf), nI (zKd d + 1), sl, sv) n (upd g 1 x) τ) (z_mf G ad (0, cp, (zKf d (zMA n g τ) hf), nI (zKd d + 1), sl, sv) n g τ (by decide) (by decide) x) dX5_moveBase_57 (fun H locs hM hS => ?_)
      refine lv_aload_n hx hb dX5_moveBase_58 rfl (lv_at hl 1 rfl) ?_
      refine z_getM (v := .ref (ad 1)) hx hb hts hown in_X5_moveBase_X5 hK hM 1 (by decide) rfl (hts _ (List.mem_of_getElem? (i := 2) (by decide +kernel))) rfl dX5_moveBase_59 ?_
      refine lv_iconst (v := 2) hx hb dX5_moveBase_62 (by decide) ?_
      refine lv_iload_n hx hb dX5_moveBase_63 rfl (lv_at hl 3 rfl) ?_
      refine z_stM (w := y) hx hb hK hA hS hM 1 rfl 2 (by decide) (by decide) (by decide) (zMP G ad (0, cp, (zKf d (zMA n g τ) hf), nI (zKd d + 1), sl, sv) n (upd (upd g 1 x) 2 y) τ) (z_mf G ad (0, cp, (zKf d (zMA n g τ) hf), nI (zKd d + 1), sl, sv) n (upd g 1 x) τ (by decide) (by decide) y) dX5_moveBase_64 (fun H locs hM hS => ?_)
      refine lv_iload_n hx hb dX5_moveBase_65 rfl (lv_at hl 0 rfl) ?_
      exact z_iretE hx hb hr hlk hK hS (zIr_n (by first | assumption | (simp only [c_2, c_3, eq_self, ne_eq, not_true_eq_false, not_false_eq_true, and_true, true_and, and_self, and_false, false_and, true_or, or_true, false_or, or_false, reduceIte]; done) | (simp [c_2, c_3]; done) | grind) (by first | rfl | (simp only [c_2, c_3, eq_self, ne_eq, not_true_eq_false, not_false_eq_true, and_true, true_and, and_self, and_false, false_and, true_or, or_true, false_or, or_false, reduceIte]; done) | (simp [c_2, c_3]; done))) (zIf_n (by first | assumption | (simp only [c_2, c_3, eq_self, ne_eq, not_true_eq_false, not_false_eq_true, and_true, true_and, and_self, and_false, false_and, true_or, or_true, false_or, or_false, reduceIte]; done) | (simp [c_2, c_3]; done) | grind) (by first | exact hM | (simpa only [c_2, c_3, eq_self, ne_eq, not_true_eq_false, not_false_eq_true, and_true, true_and, and_self, and_false, false_and, true_or, or_true, false_or, or_false, reduceIte] using hM) | (simpa [c_2, c_3] using hM))) dX5_moveBase_66
    · skip
      have c_4 := zBi_0.mp c_4
      refine lv_iconst (v := -1) hx hb dX5_moveBase_27 (by decide) ?_
      exact z_iretE hx hb hr hlk hK hS (zIr_t (by first | assumption | (simp only [c_2, c_4, eq_self, ne_eq, not_true_eq_false, not_false_eq_true, and_true, true_and, and_self, and_false, false_and, true_or, or_true, false_or, or_false, reduceIte]; done) | (simp [c_2, c_4]; done) | grind) (by first | rfl | (simp only [c_2, c_4, eq_self, ne_eq, not_true_eq_false, not_false_eq_true, and_true, true_and, and_self, and_false, false_and, true_or, or_true, false_or, or_false, reduceIte]; done) | (simp [c_2, c_4]; done))) (zIf_t (by first | assumption | (simp only [c_2, c_4, eq_self, ne_eq, not_true_eq_false, not_false_eq_true, and_true, true_and, and_self, and_false, false_and, true_or, or_true, false_or, or_false, reduceIte]; done) | (simp [c_2, c_4]; done) | grind) (by first | exact hM | (simpa only [c_2, c_4, eq_self, ne_eq, not_true_eq_false, not_false_eq_true, and_true, true_and, and_self, and_false, false_and, true_or, or_true, false_or, or_false, reduceIte] using hM) | (simpa [c_2, c_4] using hM))) dX5_moveBase_28

theorem in_X5_setGenerator_X5 : ∀ w ∈ wsX50, w ∈ wsX5_setGenerator := by decide +kernel
set_option maxHeartbeats 4000000 in
set_option maxRecDepth 100000 in
theorem p_X5_setGenerator (l : Launch) (G : zG) (A : Nat → Prop) (ad : Nat → Nat) (hA : zAm G ad A) (th : Int32) (cp hf : Nat → Int32) (d : Nat) (hd : d ≤ 6) (sl sv : Nat → Int32) (n : Nat) (hn12 : n ≤ 12) (g : Nat → Int32) (τ : zT) (x : Int32) : zMi l G A yX5_setGenerator wsX5_setGenerator 1 21 [.ref (ad 0), .int x] (zMP G ad (th, cp, hf, nI d, sl, sv) n g τ) (if x < 0 then -1 else τ 11 10) (if x < 0 then (zMP G ad (0, cp, hf, nI d, sl, sv) n g τ) else (zMP G ad (0, cp, (zKf d (zMA n g τ) hf), nI (zKd d + 1), sl, sv) n g (zSt τ 11 9 x))) := by
  refine z_met (cc := cX5_setGenerator) (maxL := 2) (ret := (some .int)) (by decide) rfl (Nat.le_of_ble_eq_true rfl) ?_
  intro p e s m below meth c ls S hr hlk hnm hM hK hl
  have S : CallFix p m c cX5_setGenerator 2 s _ wsX5_setGenerator RX5 := S
  obtain ⟨hx, hb, hml, hown, hts⟩ := id S
  have hS : va_S A s.heap s.heap [] := va_S.rf
  have hl : lv_has ls 2 [(0, .ref (ad 0)), (1, .int x)] := hl
  refine lv_aload_n hx hb dX5_setGenerator_0 rfl (lv_at hl 0 rfl) ?_
  refine lv_iconst (v := 0) hx hb dX5_setGenerator_1 (by decide) ?_
  refine z_putM (w := 0) hx hb hts hown in_X5_setGenerator_X5 hK hA hS hM 0 (by decide) rfl (hts _ (List.mem_of_getElem? (i := 1) (by decide +kernel))) (by decide +kernel) rfl (0, cp, hf, nI d, sl, sv) rfl ⟨rfl, rfl, rfl⟩ dX5_setGenerator_2 (fun H locs hM hS => ?_)
  have hM : zMP G ad (0, cp, hf, nI d, sl, sv) n g τ H := hM
  refine lv_iload_n hx hb dX5_setGenerator_5 rfl (lv_at hl 1 rfl) ?_
  refine lv_if_ge (tgt := 11) hx hb dX5_setGenerator_6 (by decide) (fun c_1 => ?_) (fun c_2 => ?_)
  · skip
    have c_1 := Int32.not_lt.mpr c_1
    refine lv_aload_n hx hb dX5_setGenerator_11 rfl (lv_at hl 0 rfl) ?_
    refine z_vv (As := []) (rest := []) (P2 := zMP G ad (0, cp, (zKf d (zMA n g τ) hf), nI (zKd d + 1), sl, sv) n g τ) S (r_X5_keep l G A ad hA 0 cp hf d hd sl sv (zMA n g τ) (zEr τ) (τ 9)) (cwV 0 hts gX5_setGenerator_X5_keep rfl rfl rfl (by decide +kernel) ⟨Nat.le_of_ble_eq_true rfl, Nat.le_of_ble_eq_true rfl⟩) (z_recM hK hM) hM hK hS (fun _ _ h => h) (fun _ h => h) hl.1 rfl rfl (Nat.le_of_ble_eq_true rfl) dX5_setGenerator_12 ⟨Nat.le_refl _, Nat.le_refl _⟩ (fun H locs hM hS _ => ?_)
    refine lv_aload_n hx hb dX5_setGenerator_15 rfl (lv_at hl 0 rfl) ?_
    refine z_getM (v := .ref (ad 1)) hx hb hts hown in_X5_setGenerator_X5 hK hM 1 (by decide) rfl (hts _ (List.mem_of_getElem? (i := 2) (by decide +kernel))) rfl dX5_setGenerator_16 ?_
    refine lv_bipush (v := 9) hx hb dX5_setGenerator_19 (by decide) ?_
    refine lv_iload_n hx hb dX5_setGenerator_21 rfl (lv_at hl 1 rfl) ?_
    refine z_stM (w := x) hx hb hK hA hS hM 1 rfl 9 (by decide) (by decide) (by decide) (zMP G ad (0, cp, (zKf d (zMA n g τ) hf), nI (zKd d + 1), sl, sv) n g (zSt τ 11 9 x)) (z_mg G ad (0, cp, (zKf d (zMA n g τ) hf), nI (zKd d + 1), sl, sv) n g τ (by decide) (by decide) x) dX5_setGenerator_22 (fun H locs hM hS => ?_)
    refine lv_aload_n hx hb dX5_setGenerator_23 rfl (lv_at hl 0 rfl) ?_
    refine z_getM (v := .ref (ad 1)) hx hb hts hown in_X5_setGenerator_X5 hK hM 1 (by decide) rfl (hts _ (List.mem_of_getElem? (i := 2) (by decide +kernel))) rfl dX5_setGenerator_24 ?_
    refine lv_bipush (v := 10) hx hb dX5_setGenerator_27 (by decide) ?_
    refine z_ldM (w := τ 11 10) hx hb hK hM 1 rfl 10 (by decide) (by decide) (by decide) rfl dX5_setGenerator_29 ?_
    exact z_iretE hx hb hr hlk hK hS (zIr_n (by first | assumption | (simp only [c_1, eq_self, ne_eq, not_true_eq_false, not_false_eq_true, and_true, true_and, and_self, and_false, false_and, true_or, or_true, false_or, or_false, reduceIte]; done) | (simp [c_1]; done) | grind) (by first | rfl | (simp only [c_1, eq_self, ne_eq, not_true_eq_false, not_false_eq_true, and_true, true_and, and_self, and_false, false_and, true_or, or_true, false_or, or_false, reduceIte]; done) | (simp [c_1]; done))) (zIf_n (by first | assumption | (simp only [c_1, eq_self, ne_eq, not_true_eq_false, not_false_eq_true, and_true, true_and, and_self, and_false, false_and, true_or, or_true, false_or, or_false, reduceIte]; done) | (simp [c_1]; done) | grind) (by first | exact hM | (simpa only [c_1, eq_self, ne_eq, not_true_eq_false, not_false_eq_true, and_true, true_and, and_self, and_false, false_and, true_or, or_true, false_or, or_false, reduceIte] using hM) | (simpa [c_1] using hM))) dX5_setGenerator_30
  · skip
    have c_2 := Int32.not_le.mp c_2
    refine lv_iconst (v := -1) hx hb dX5_setGenerator_9 (by decide) ?_
    exact z_iretE hx hb hr hlk hK hS (zIr_t (by first | assumption | (simp only [c_2, eq_self, ne_eq, not_true_eq_false, not_false_eq_true, and_true, true_and, and_self, and_false, false_and, true_or, or_true, false_or, or_false, reduceIte]; done) | (simp [c_2]; done) | grind) (by first | rfl | (simp only [c_2, eq_self, ne_eq, not_true_eq_false, not_false_eq_true, and_true, true_and, and_self, and_false, false_and, true_or, or_true, false_or, or_false, reduceIte]; done) | (simp [c_2]; done))) (zIf_t (by first | assumption | (simp only [c_2, eq_self, ne_eq, not_true_eq_false, not_false_eq_true, and_true, true_and, and_self, and_false, false_and, true_or, or_true, false_or, or_false, reduceIte]; done) | (simp [c_2]; done) | grind) (by first | exact hM | (simpa only [c_2, eq_self, ne_eq, not_true_eq_false, not_false_eq_true, and_true, true_and, and_self, and_false, false_and, true_or, or_true, false_or, or_false, reduceIte] using hM) | (simpa [c_2] using hM))) dX5_setGenerator_10

theorem in_X5_roundNumber_X5 : ∀ w ∈ wsX50, w ∈ wsX5_roundNumber := by decide +kernel
set_option maxHeartbeats 4000000 in
set_option maxRecDepth 100000 in
theorem p_X5_roundNumber (l : Launch) (G : zG) (A : Nat → Prop) (ad : Nat → Nat) (hA : zAm G ad A) (th : Int32) (cp hf : Nat → Int32) (d : Nat) (hd : d ≤ 6) (sl sv : Nat → Int32) (n : Nat) (hn12 : n ≤ 12) (g : Nat → Int32) (τ : zT) : zMi l G A yX5_roundNumber wsX5_roundNumber 0 0 [.ref (ad 0)] (zMP G ad (th, cp, hf, nI d, sl, sv) n g τ) (τ 11 10) (zMP G ad (0, cp, hf, nI d, sl, sv) n g τ) := by
  refine z_met (cc := cX5_roundNumber) (maxL := 1) (ret := (some .int)) (by decide) rfl (Nat.le_of_ble_eq_true rfl) ?_
  intro p e s m below meth c ls S hr hlk hnm hM hK hl
  have S : CallFix p m c cX5_roundNumber 1 s _ wsX5_roundNumber RX5 := S
  obtain ⟨hx, hb, hml, hown, hts⟩ := id S
  have hS : va_S A s.heap s.heap [] := va_S.rf
  have hl : lv_has ls 1 [(0, .ref (ad 0))] := hl
  refine lv_aload_n hx hb dX5_roundNumber_0 rfl (lv_at hl 0 rfl) ?_
  refine lv_iconst (v := 0) hx hb dX5_roundNumber_1 (by decide) ?_
  refine z_putM (w := 0) hx hb hts hown in_X5_roundNumber_X5 hK hA hS hM 0 (by decide) rfl (hts _ (List.mem_of_getElem? (i := 1) (by decide +kernel))) (by decide +kernel) rfl (0, cp, hf, nI d, sl, sv) rfl ⟨rfl, rfl, rfl⟩ dX5_roundNumber_2 (fun H locs hM hS => ?_)
  have hM : zMP G ad (0, cp, hf, nI d, sl, sv) n g τ H := hM
  refine lv_aload_n hx hb dX5_roundNumber_5 rfl (lv_at hl 0 rfl) ?_
  refine z_getM (v := .ref (ad 1)) hx hb hts hown in_X5_roundNumber_X5 hK hM 1 (by decide) rfl (hts _ (List.mem_of_getElem? (i := 2) (by decide +kernel))) rfl dX5_roundNumber_6 ?_
  refine lv_bipush (v := 10) hx hb dX5_roundNumber_9 (by decide) ?_
  refine z_ldM (w := τ 11 10) hx hb hK hM 1 rfl 10 (by decide) (by decide) (by decide) rfl dX5_roundNumber_11 ?_
  exact z_iretE hx hb hr hlk hK hS (by first | rfl | (simp only [eq_self, ne_eq, not_true_eq_false, not_false_eq_true, and_true, true_and, and_self, and_false, false_and, true_or, or_true, false_or, or_false, reduceIte]; done) | (simp []; done)) (by first | exact hM | (simpa only [eq_self, ne_eq, not_true_eq_false, not_false_eq_true, and_true, true_and, and_self, and_false, false_and, true_or, or_true, false_or, or_false, reduceIte] using hM) | (simpa [] using hM)) dX5_roundNumber_12

theorem in_X5_sensorCount_X5 : ∀ w ∈ wsX50, w ∈ wsX5_sensorCount := by decide +kernel
set_option maxHeartbeats 4000000 in
set_option maxRecDepth 100000 in
theorem p_X5_sensorCount (l : Launch) (G : zG) (A : Nat → Prop) (ad : Nat → Nat) (hA : zAm G ad A) (th : Int32) (cp hf : Nat → Int32) (d : Nat) (hd : d ≤ 6) (sl sv : Nat → Int32) (n : Nat) (hn12 : n ≤ 12) (g : Nat → Int32) (τ : zT) : zMi l G A yX5_sensorCount wsX5_sensorCount 0 0 [.ref (ad 0)] (zMP G ad (th, cp, hf, nI d, sl, sv) n g τ) (nI n) (zMP G ad (0, cp, hf, nI d, sl, sv) n g τ) := by
  refine z_met (cc := cX5_sensorCount) (maxL := 1) (ret := (some .int)) (by decide) rfl (Nat.le_of_ble_eq_true rfl) ?_
  intro p e s m below meth c ls S hr hlk hnm hM hK hl
  have S : CallFix p m c cX5_sensorCount 1 s _ wsX5_sensorCount RX5 := S
  obtain ⟨hx, hb, hml, hown, hts⟩ := id S
  have hS : va_S A s.heap s.heap [] := va_S.rf
  have hl : lv_has ls 1 [(0, .ref (ad 0))] := hl
  refine lv_aload_n hx hb dX5_sensorCount_0 rfl (lv_at hl 0 rfl) ?_
  refine lv_iconst (v := 0) hx hb dX5_sensorCount_1 (by decide) ?_
  refine z_putM (w := 0) hx hb hts hown in_X5_sensorCount_X5 hK hA hS hM 0 (by decide) rfl (hts _ (List.mem_of_getElem? (i := 1) (by decide +kernel))) (by decide +kernel) rfl (0, cp, hf, nI d, sl, sv) rfl ⟨rfl, rfl, rfl⟩ dX5_sensorCount_2 (fun H locs hM hS => ?_)
  have hM : zMP G ad (0, cp, hf, nI d, sl, sv) n g τ H := hM
  refine lv_aload_n hx hb dX5_sensorCount_5 rfl (lv_at hl 0 rfl) ?_
  refine z_getM (v := .ref (ad 1)) hx hb hts hown in_X5_sensorCount_X5 hK hM 1 (by decide) rfl (hts _ (List.mem_of_getElem? (i := 2) (by decide +kernel))) rfl dX5_sensorCount_6 ?_
  refine lv_iconst (v := 0) hx hb dX5_sensorCount_9 (by decide) ?_
  refine z_ldM (w := nI n) hx hb hK hM 1 rfl 0 (by decide) (by decide) (by decide) rfl dX5_sensorCount_10 ?_
  exact z_iretE hx hb hr hlk hK hS (by first | rfl | (simp only [eq_self, ne_eq, not_true_eq_false, not_false_eq_true, and_true, true_and, and_self, and_false, false_and, true_or, or_true, false_or, or_false, reduceIte]; done) | (simp []; done)) (by first | exact hM | (simpa only [eq_self, ne_eq, not_true_eq_false, not_false_eq_true, and_true, true_and, and_self, and_false, false_and, true_or, or_true, false_or, or_false, reduceIte] using hM) | (simpa [] using hM)) dX5_sensorCount_11

theorem in_X5_headCount_X5 : ∀ w ∈ wsX50, w ∈ wsX5_headCount := by decide +kernel
set_option maxHeartbeats 4000000 in
set_option maxRecDepth 100000 in
theorem p_X5_headCount (l : Launch) (G : zG) (A : Nat → Prop) (ad : Nat → Nat) (hA : zAm G ad A) (th : Int32) (cp hf : Nat → Int32) (d : Nat) (hd : d ≤ 6) (sl sv : Nat → Int32) (n : Nat) (hn12 : n ≤ 12) (g : Nat → Int32) (τ : zT) : zMi l G A yX5_headCount wsX5_headCount 0 0 [.ref (ad 0)] (zMP G ad (th, cp, hf, nI d, sl, sv) n g τ) (τ 11 11) (zMP G ad (0, cp, hf, nI d, sl, sv) n g τ) := by
  refine z_met (cc := cX5_headCount) (maxL := 1) (ret := (some .int)) (by decide) rfl (Nat.le_of_ble_eq_true rfl) ?_
  intro p e s m below meth c ls S hr hlk hnm hM hK hl
  have S : CallFix p m c cX5_headCount 1 s _ wsX5_headCount RX5 := S
  obtain ⟨hx, hb, hml, hown, hts⟩ := id S
  have hS : va_S A s.heap s.heap [] := va_S.rf
  have hl : lv_has ls 1 [(0, .ref (ad 0))] := hl
  refine lv_aload_n hx hb dX5_headCount_0 rfl (lv_at hl 0 rfl) ?_
  refine lv_iconst (v := 0) hx hb dX5_headCount_1 (by decide) ?_
  refine z_putM (w := 0) hx hb hts hown in_X5_headCount_X5 hK hA hS hM 0 (by decide) rfl (hts _ (List.mem_of_getElem? (i := 1) (by decide +kernel))) (by decide +kernel) rfl (0, cp, hf, nI d, sl, sv) rfl ⟨rfl, rfl, rfl⟩ dX5_headCount_2 (fun H locs hM hS => ?_)
  have hM : zMP G ad (0, cp, hf, nI d, sl, sv) n g τ H := hM
  refine lv_aload_n hx hb dX5_headCount_5 rfl (lv_at hl 0 rfl) ?_
  refine z_getM (v := .ref (ad 1)) hx hb hts hown in_X5_headCount_X5 hK hM 1 (by decide) rfl (hts _ (List.mem_of_getElem? (i := 2) (by decide +kernel))) rfl dX5_headCount_6 ?_
  refine lv_bipush (v := 11) hx hb dX5_headCount_9 (by decide) ?_
  refine z_ldM (w := τ 11 11) hx hb hK hM 1 rfl 11 (by decide) (by decide) (by decide) rfl dX5_headCount_11 ?_
  exact z_iretE hx hb hr hlk hK hS (by first | rfl | (simp only [eq_self, ne_eq, not_true_eq_false, not_false_eq_true, and_true, true_and, and_self, and_false, false_and, true_or, or_true, false_or, or_false, reduceIte]; done) | (simp []; done)) (by first | exact hM | (simpa only [eq_self, ne_eq, not_true_eq_false, not_false_eq_true, and_true, true_and, and_self, and_false, false_and, true_or, or_true, false_or, or_false, reduceIte] using hM) | (simpa [] using hM)) dX5_headCount_12

theorem in_X5_lastDelivered_X5 : ∀ w ∈ wsX50, w ∈ wsX5_lastDelivered := by decide +kernel
set_option maxHeartbeats 4000000 in
set_option maxRecDepth 100000 in
theorem p_X5_lastDelivered (l : Launch) (G : zG) (A : Nat → Prop) (ad : Nat → Nat) (hA : zAm G ad A) (th : Int32) (cp hf : Nat → Int32) (d : Nat) (hd : d ≤ 6) (sl sv : Nat → Int32) (n : Nat) (hn12 : n ≤ 12) (g : Nat → Int32) (τ : zT) : zMi l G A yX5_lastDelivered wsX5_lastDelivered 0 0 [.ref (ad 0)] (zMP G ad (th, cp, hf, nI d, sl, sv) n g τ) (τ 11 12) (zMP G ad (0, cp, hf, nI d, sl, sv) n g τ) := by
  refine z_met (cc := cX5_lastDelivered) (maxL := 1) (ret := (some .int)) (by decide) rfl (Nat.le_of_ble_eq_true rfl) ?_
  intro p e s m below meth c ls S hr hlk hnm hM hK hl
  have S : CallFix p m c cX5_lastDelivered 1 s _ wsX5_lastDelivered RX5 := S
  obtain ⟨hx, hb, hml, hown, hts⟩ := id S
  have hS : va_S A s.heap s.heap [] := va_S.rf
  have hl : lv_has ls 1 [(0, .ref (ad 0))] := hl
  refine lv_aload_n hx hb dX5_lastDelivered_0 rfl (lv_at hl 0 rfl) ?_
  refine lv_iconst (v := 0) hx hb dX5_lastDelivered_1 (by decide) ?_
  refine z_putM (w := 0) hx hb hts hown in_X5_lastDelivered_X5 hK hA hS hM 0 (by decide) rfl (hts _ (List.mem_of_getElem? (i := 1) (by decide +kernel))) (by decide +kernel) rfl (0, cp, hf, nI d, sl, sv) rfl ⟨rfl, rfl, rfl⟩ dX5_lastDelivered_2 (fun H locs hM hS => ?_)
  have hM : zMP G ad (0, cp, hf, nI d, sl, sv) n g τ H := hM
  refine lv_aload_n hx hb dX5_lastDelivered_5 rfl (lv_at hl 0 rfl) ?_
  refine z_getM (v := .ref (ad 1)) hx hb hts hown in_X5_lastDelivered_X5 hK hM 1 (by decide) rfl (hts _ (List.mem_of_getElem? (i := 2) (by decide +kernel))) rfl dX5_lastDelivered_6 ?_
  refine lv_bipush (v := 12) hx hb dX5_lastDelivered_9 (by decide) ?_
  refine z_ldM (w := τ 11 12) hx hb hK hM 1 rfl 12 (by decide) (by decide) (by decide) rfl dX5_lastDelivered_11 ?_
  exact z_iretE hx hb hr hlk hK hS (by first | rfl | (simp only [eq_self, ne_eq, not_true_eq_false, not_false_eq_true, and_true, true_and, and_self, and_false, false_and, true_or, or_true, false_or, or_false, reduceIte]; done) | (simp []; done)) (by first | exact hM | (simpa only [eq_self, ne_eq, not_true_eq_false, not_false_eq_true, and_true, true_and, and_self, and_false, false_and, true_or, or_true, false_or, or_false, reduceIte] using hM) | (simpa [] using hM)) dX5_lastDelivered_12

theorem in_X5_deliveredTotal_X5 : ∀ w ∈ wsX50, w ∈ wsX5_deliveredTotal := by decide +kernel
set_option maxHeartbeats 4000000 in
set_option maxRecDepth 100000 in
theorem p_X5_deliveredTotal (l : Launch) (G : zG) (A : Nat → Prop) (ad : Nat → Nat) (hA : zAm G ad A) (th : Int32) (cp hf : Nat → Int32) (d : Nat) (hd : d ≤ 6) (sl sv : Nat → Int32) (n : Nat) (hn12 : n ≤ 12) (g : Nat → Int32) (τ : zT) : zMi l G A yX5_deliveredTotal wsX5_deliveredTotal 0 0 [.ref (ad 0)] (zMP G ad (th, cp, hf, nI d, sl, sv) n g τ) (τ 11 13) (zMP G ad (0, cp, hf, nI d, sl, sv) n g τ) := by
  refine z_met (cc := cX5_deliveredTotal) (maxL := 1) (ret := (some .int)) (by decide) rfl (Nat.le_of_ble_eq_true rfl) ?_
  intro p e s m below meth c ls S hr hlk hnm hM hK hl
  have S : CallFix p m c cX5_deliveredTotal 1 s _ wsX5_deliveredTotal RX5 := S
  obtain ⟨hx, hb, hml, hown, hts⟩ := id S
  have hS : va_S A s.heap s.heap [] := va_S.rf
  have hl : lv_has ls 1 [(0, .ref (ad 0))] := hl
  refine lv_aload_n hx hb dX5_deliveredTotal_0 rfl (lv_at hl 0 rfl) ?_
  refine lv_iconst (v := 0) hx hb dX5_deliveredTotal_1 (by decide) ?_
  refine z_putM (w := 0) hx hb hts hown in_X5_deliveredTotal_X5 hK hA hS hM 0 (by decide) rfl (hts _ (List.mem_of_getElem? (i := 1) (by decide +kernel))) (by decide +kernel) rfl (0, cp, hf, nI d, sl, sv) rfl ⟨rfl, rfl, rfl⟩ dX5_deliveredTotal_2 (fun H locs hM hS => ?_)
  have hM : zMP G ad (0, cp, hf, nI d, sl, sv) n g τ H := hM
  refine lv_aload_n hx hb dX5_deliveredTotal_5 rfl (lv_at hl 0 rfl) ?_
  refine z_getM (v := .ref (ad 1)) hx hb hts hown in_X5_deliveredTotal_X5 hK hM 1 (by decide) rfl (hts _ (List.mem_of_getElem? (i := 2) (by decide +kernel))) rfl dX5_deliveredTotal_6 ?_
  refine lv_bipush (v := 13) hx hb dX5_deliveredTotal_9 (by decide) ?_
  refine z_ldM (w := τ 11 13) hx hb hK hM 1 rfl 13 (by decide) (by decide) (by decide) rfl dX5_deliveredTotal_11 ?_
  exact z_iretE hx hb hr hlk hK hS (by first | rfl | (simp only [eq_self, ne_eq, not_true_eq_false, not_false_eq_true, and_true, true_and, and_self, and_false, false_and, true_or, or_true, false_or, or_false, reduceIte]; done) | (simp []; done)) (by first | exact hM | (simpa only [eq_self, ne_eq, not_true_eq_false, not_false_eq_true, and_true, true_and, and_self, and_false, false_and, true_or, or_true, false_or, or_false, reduceIte] using hM) | (simpa [] using hM)) dX5_deliveredTotal_12

theorem in_X5_energyPaid_X5 : ∀ w ∈ wsX50, w ∈ wsX5_energyPaid := by decide +kernel
set_option maxHeartbeats 4000000 in
set_option maxRecDepth 100000 in
theorem p_X5_energyPaid (l : Launch) (G : zG) (A : Nat → Prop) (ad : Nat → Nat) (hA : zAm G ad A) (th : Int32) (cp hf : Nat → Int32) (d : Nat) (hd : d ≤ 6) (sl sv : Nat → Int32) (n : Nat) (hn12 : n ≤ 12) (g : Nat → Int32) (τ : zT) : zMi l G A yX5_energyPaid wsX5_energyPaid 0 0 [.ref (ad 0)] (zMP G ad (th, cp, hf, nI d, sl, sv) n g τ) (τ 11 14) (zMP G ad (0, cp, hf, nI d, sl, sv) n g τ) := by
  refine z_met (cc := cX5_energyPaid) (maxL := 1) (ret := (some .int)) (by decide) rfl (Nat.le_of_ble_eq_true rfl) ?_
  intro p e s m below meth c ls S hr hlk hnm hM hK hl
  have S : CallFix p m c cX5_energyPaid 1 s _ wsX5_energyPaid RX5 := S
  obtain ⟨hx, hb, hml, hown, hts⟩ := id S
  have hS : va_S A s.heap s.heap [] := va_S.rf
  have hl : lv_has ls 1 [(0, .ref (ad 0))] := hl
  refine lv_aload_n hx hb dX5_energyPaid_0 rfl (lv_at hl 0 rfl) ?_
  refine lv_iconst (v := 0) hx hb dX5_energyPaid_1 (by decide) ?_
  refine z_putM (w := 0) hx hb hts hown in_X5_energyPaid_X5 hK hA hS hM 0 (by decide) rfl (hts _ (List.mem_of_getElem? (i := 1) (by decide +kernel))) (by decide +kernel) rfl (0, cp, hf, nI d, sl, sv) rfl ⟨rfl, rfl, rfl⟩ dX5_energyPaid_2 (fun H locs hM hS => ?_)
  have hM : zMP G ad (0, cp, hf, nI d, sl, sv) n g τ H := hM
  refine lv_aload_n hx hb dX5_energyPaid_5 rfl (lv_at hl 0 rfl) ?_
  refine z_getM (v := .ref (ad 1)) hx hb hts hown in_X5_energyPaid_X5 hK hM 1 (by decide) rfl (hts _ (List.mem_of_getElem? (i := 2) (by decide +kernel))) rfl dX5_energyPaid_6 ?_
  refine lv_bipush (v := 14) hx hb dX5_energyPaid_9 (by decide) ?_
  refine z_ldM (w := τ 11 14) hx hb hK hM 1 rfl 14 (by decide) (by decide) (by decide) rfl dX5_energyPaid_11 ?_
  exact z_iretE hx hb hr hlk hK hS (by first | rfl | (simp only [eq_self, ne_eq, not_true_eq_false, not_false_eq_true, and_true, true_and, and_self, and_false, false_and, true_or, or_true, false_or, or_false, reduceIte]; done) | (simp []; done)) (by first | exact hM | (simpa only [eq_self, ne_eq, not_true_eq_false, not_false_eq_true, and_true, true_and, and_self, and_false, false_and, true_or, or_true, false_or, or_false, reduceIte] using hM) | (simpa [] using hM)) dX5_energyPaid_12

theorem in_X5_undoDepth_X5 : ∀ w ∈ wsX50, w ∈ wsX5_undoDepth := by decide +kernel
set_option maxHeartbeats 4000000 in
set_option maxRecDepth 100000 in
theorem p_X5_undoDepth (l : Launch) (G : zG) (A : Nat → Prop) (ad : Nat → Nat) (hA : zAm G ad A) (th : Int32) (cp hf : Nat → Int32) (d : Nat) (hd : d ≤ 6) (sl sv : Nat → Int32) (n : Nat) (hn12 : n ≤ 12) (g : Nat → Int32) (τ : zT) : zMi l G A yX5_undoDepth wsX5_undoDepth 0 0 [.ref (ad 0)] (zMP G ad (th, cp, hf, nI d, sl, sv) n g τ) (nI d) (zMP G ad (0, cp, hf, nI d, sl, sv) n g τ) := by
  refine z_met (cc := cX5_undoDepth) (maxL := 1) (ret := (some .int)) (by decide) rfl (Nat.le_of_ble_eq_true rfl) ?_
  intro p e s m below meth c ls S hr hlk hnm hM hK hl
  have S : CallFix p m c cX5_undoDepth 1 s _ wsX5_undoDepth RX5 := S
  obtain ⟨hx, hb, hml, hown, hts⟩ := id S
  have hS : va_S A s.heap s.heap [] := va_S.rf
  have hl : lv_has ls 1 [(0, .ref (ad 0))] := hl
  refine lv_aload_n hx hb dX5_undoDepth_0 rfl (lv_at hl 0 rfl) ?_
  refine lv_iconst (v := 0) hx hb dX5_undoDepth_1 (by decide) ?_
  refine z_putM (w := 0) hx hb hts hown in_X5_undoDepth_X5 hK hA hS hM 0 (by decide) rfl (hts _ (List.mem_of_getElem? (i := 1) (by decide +kernel))) (by decide +kernel) rfl (0, cp, hf, nI d, sl, sv) rfl ⟨rfl, rfl, rfl⟩ dX5_undoDepth_2 (fun H locs hM hS => ?_)
  have hM : zMP G ad (0, cp, hf, nI d, sl, sv) n g τ H := hM
  refine lv_aload_n hx hb dX5_undoDepth_5 rfl (lv_at hl 0 rfl) ?_
  refine z_getM (v := .int (nI d)) hx hb hts hown in_X5_undoDepth_X5 hK hM 4 (by decide) rfl (hts _ (List.mem_of_getElem? (i := 2) (by decide +kernel))) rfl dX5_undoDepth_6 ?_
  exact z_iretE hx hb hr hlk hK hS (by first | rfl | (simp only [eq_self, ne_eq, not_true_eq_false, not_false_eq_true, and_true, true_and, and_self, and_false, false_and, true_or, or_true, false_or, or_false, reduceIte]; done) | (simp []; done)) (by first | exact hM | (simpa only [eq_self, ne_eq, not_true_eq_false, not_false_eq_true, and_true, true_and, and_self, and_false, false_and, true_or, or_true, false_or, or_false, reduceIte] using hM) | (simpa [] using hM)) dX5_undoDepth_9

theorem in_X5_aliveCount_X5 : ∀ w ∈ wsX50, w ∈ wsX5_aliveCount := by decide +kernel
set_option maxHeartbeats 4000000 in
set_option maxRecDepth 100000 in
theorem p_X5_aliveCount (l : Launch) (G : zG) (A : Nat → Prop) (ad : Nat → Nat) (hA : zAm G ad A) (th : Int32) (cp hf : Nat → Int32) (d : Nat) (hd : d ≤ 6) (sl sv : Nat → Int32) (n : Nat) (hn12 : n ≤ 12) (g : Nat → Int32) (τ : zT) : zMi l G A yX5_aliveCount wsX5_aliveCount 2 44 [.ref (ad 0)] (zMP G ad (th, cp, hf, nI d, sl, sv) n g τ) (zLv n τ) (zMP G ad (0, cp, hf, nI d, sl, sv) n g τ) := by
  refine z_met (cc := cX5_aliveCount) (maxL := 1) (ret := (some .int)) (by decide) rfl (Nat.le_of_ble_eq_true rfl) ?_
  intro p e s m below meth c ls S hr hlk hnm hM hK hl
  have S : CallFix p m c cX5_aliveCount 1 s _ wsX5_aliveCount RX5 := S
  obtain ⟨hx, hb, hml, hown, hts⟩ := id S
  have hS : va_S A s.heap s.heap [] := va_S.rf
  have hl : lv_has ls 1 [(0, .ref (ad 0))] := hl
  refine lv_aload_n hx hb dX5_aliveCount_0 rfl (lv_at hl 0 rfl) ?_
  refine lv_iconst (v := 0) hx hb dX5_aliveCount_1 (by decide) ?_
  refine z_putM (w := 0) hx hb hts hown in_X5_aliveCount_X5 hK hA hS hM 0 (by decide) rfl (hts _ (List.mem_of_getElem? (i := 1) (by decide +kernel))) (by decide +kernel) rfl (0, cp, hf, nI d, sl, sv) rfl ⟨rfl, rfl, rfl⟩ dX5_aliveCount_2 (fun H locs hM hS => ?_)
  have hM : zMP G ad (0, cp, hf, nI d, sl, sv) n g τ H := hM
  refine lv_aload_n hx hb dX5_aliveCount_5 rfl (lv_at hl 0 rfl) ?_
  refine z_vi (As := []) (rest := []) (P2 := zMP G ad (0, cp, hf, nI d, sl, sv) n g τ) (r := zLv n τ) S (c_X5_alive l G A ad (0, cp, hf, nI d, sl, sv) n g hA hn12  τ ) (cwV 0 hts gX5_aliveCount_X5_alive rfl rfl rfl (by decide +kernel) ⟨Nat.le_of_ble_eq_true rfl, Nat.le_of_ble_eq_true rfl⟩) (z_recM hK hM) hM hK hS (fun _ _ h => h) (fun _ h => h) hl.1 rfl rfl (Nat.le_of_ble_eq_true rfl) dX5_aliveCount_6 ⟨Nat.le_refl _, Nat.le_refl _⟩ (fun H locs hM hS _ => ?_)
  exact z_iretE hx hb hr hlk hK hS (by first | rfl | (simp only [eq_self, ne_eq, not_true_eq_false, not_false_eq_true, and_true, true_and, and_self, and_false, false_and, true_or, or_true, false_or, or_false, reduceIte]; done) | (simp []; done)) (by first | exact hM | (simpa only [eq_self, ne_eq, not_true_eq_false, not_false_eq_true, and_true, true_and, and_self, and_false, false_and, true_or, or_true, false_or, or_false, reduceIte] using hM) | (simpa [] using hM)) dX5_aliveCount_9
