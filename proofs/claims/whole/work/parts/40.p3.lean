/-! rows laid by my own program (wip/whole/gen) -/
set_option maxHeartbeats 4000000 in
set_option maxRecDepth 100000 in
theorem c_X5_isSettingValue (l : Launch) (G : zG) (A : Nat → Prop) (P : Heap → Prop) (x v : Int32) : zMi l G A yX5_isSettingValue wsX5_isSettingValue 1 22 [.int x, .int v] (P) (zSvB x v) (P) := by
  refine z_met (cc := cX5_isSettingValue) (maxL := 2) (ret := (some .boolean)) (by decide) rfl (Nat.le_of_ble_eq_true rfl) ?_
  intro p e s m below meth c ls S hr hlk hnm hM hK hl
  have S : CallFix p m c cX5_isSettingValue 2 s _ wsX5_isSettingValue RX5 := S
  obtain ⟨hx, hb, hml, hown, hts⟩ := id S
  have hS : va_S A s.heap s.heap [] := va_S.rf
  have hl : lv_has ls 2 [(0, .int x), (1, .int v)] := hl
  refine lv_iload_n hx hb dX5_isSettingValue_0 rfl (lv_at hl 0 rfl) ?_
  by_cases h0 : x = 0
  · subst h0
    refine lv_tableIn (tgt := 36) hx hb dX5_isSettingValue_1 (by decide) (by decide) rfl (by decide) ?_
    refine lv_iload_n hx hb dX5_isSettingValue_36 rfl (lv_at hl 1 rfl) ?_
    refine lv_iconst (v := 2) hx hb dX5_isSettingValue_37 (by decide) ?_
    refine lv_bipush (v := 8) hx hb dX5_isSettingValue_38 (by decide) ?_
    refine z_si (As := [.int v, .int 2, .int 8]) (rest := []) (P2 := P) (r := zBi (¬ v < 2 ∧ ¬ 8 < v)) S (c_X5_in l G A (P) v 2 8) (cwS 3 hts gX5_isSettingValue_X5_in rfl rfl rfl (by decide +kernel) ⟨Nat.le_of_ble_eq_true rfl, Nat.le_of_ble_eq_true rfl⟩) hM hK hS (fun _ _ h => h) (fun _ h => h) hl.1 rfl rfl (Nat.le_of_ble_eq_true rfl) dX5_isSettingValue_40 ⟨Nat.le_refl _, Nat.le_refl _⟩ (fun H locs hM hS _ => ?_)
    exact z_zretE hx hb hr hlk hK hS (by first | (simp [zSvB]; done) | (simp [zBi, zSvB]; done) | grind [zSvB, zBi]) zBi_nar hM dX5_isSettingValue_43
  by_cases h1 : x = 1
  · subst h1
    refine lv_tableIn (tgt := 44) hx hb dX5_isSettingValue_1 (by decide) (by decide) rfl (by decide) ?_
    refine lv_iload_n hx hb dX5_isSettingValue_44 rfl (lv_at hl 1 rfl) ?_
    refine lv_iconst (v := 1) hx hb dX5_isSettingValue_45 (by decide) ?_
    refine lv_bipush (v := 50) hx hb dX5_isSettingValue_46 (by decide) ?_
    refine z_si (As := [.int v, .int 1, .int 50]) (rest := []) (P2 := P) (r := zBi (¬ v < 1 ∧ ¬ 50 < v)) S (c_X5_in l G A (P) v 1 50) (cwS 3 hts gX5_isSettingValue_X5_in rfl rfl rfl (by decide +kernel) ⟨Nat.le_of_ble_eq_true rfl, Nat.le_of_ble_eq_true rfl⟩) hM hK hS (fun _ _ h => h) (fun _ h => h) hl.1 rfl rfl (Nat.le_of_ble_eq_true rfl) dX5_isSettingValue_48 ⟨Nat.le_refl _, Nat.le_refl _⟩ (fun H locs hM hS _ => ?_)
    exact z_zretE hx hb hr hlk hK hS (by first | (simp [zSvB]; done) | (simp [zBi, zSvB]; done) | grind [zSvB, zBi]) zBi_nar hM dX5_isSettingValue_51
  by_cases h2 : x = 2
  · subst h2
    refine lv_tableIn (tgt := 52) hx hb dX5_isSettingValue_1 (by decide) (by decide) rfl (by decide) ?_
    refine lv_iload_n hx hb dX5_isSettingValue_52 rfl (lv_at hl 1 rfl) ?_
    refine lv_iconst (v := 1) hx hb dX5_isSettingValue_53 (by decide) ?_
    refine lv_sipush (v := 1000) hx hb dX5_isSettingValue_54 (by decide) ?_
    refine z_si (As := [.int v, .int 1, .int 1000]) (rest := []) (P2 := P) (r := zBi (¬ v < 1 ∧ ¬ 1000 < v)) S (c_X5_in l G A (P) v 1 1000) (cwS 3 hts gX5_isSettingValue_X5_in rfl rfl rfl (by decide +kernel) ⟨Nat.le_of_ble_eq_true rfl, Nat.le_of_ble_eq_true rfl⟩) hM hK hS (fun _ _ h => h) (fun _ h => h) hl.1 rfl rfl (Nat.le_of_ble_eq_true rfl) dX5_isSettingValue_57 ⟨Nat.le_refl _, Nat.le_refl _⟩ (fun H locs hM hS _ => ?_)
    exact z_zretE hx hb hr hlk hK hS (by first | (simp [zSvB]; done) | (simp [zBi, zSvB]; done) | grind [zSvB, zBi]) zBi_nar hM dX5_isSettingValue_60
  by_cases h3 : x = 3
  · subst h3
    refine lv_tableIn (tgt := 61) hx hb dX5_isSettingValue_1 (by decide) (by decide) rfl (by decide) ?_
    refine lv_iload_n hx hb dX5_isSettingValue_61 rfl (lv_at hl 1 rfl) ?_
    refine lv_iconst (v := 0) hx hb dX5_isSettingValue_62 (by decide) ?_
    refine lv_bipush (v := 20) hx hb dX5_isSettingValue_63 (by decide) ?_
    refine z_si (As := [.int v, .int 0, .int 20]) (rest := []) (P2 := P) (r := zBi (¬ v < 0 ∧ ¬ 20 < v)) S (c_X5_in l G A (P) v 0 20) (cwS 3 hts gX5_isSettingValue_X5_in rfl rfl rfl (by decide +kernel) ⟨Nat.le_of_ble_eq_true rfl, Nat.le_of_ble_eq_true rfl⟩) hM hK hS (fun _ _ h => h) (fun _ h => h) hl.1 rfl rfl (Nat.le_of_ble_eq_true rfl) dX5_isSettingValue_65 ⟨Nat.le_refl _, Nat.le_refl _⟩ (fun H locs hM hS _ => ?_)
    exact z_zretE hx hb hr hlk hK hS (by first | (simp [zSvB]; done) | (simp [zBi, zSvB]; done) | grind [zSvB, zBi]) zBi_nar hM dX5_isSettingValue_68
  by_cases h4 : x = 4
  · subst h4
    refine lv_tableIn (tgt := 69) hx hb dX5_isSettingValue_1 (by decide) (by decide) rfl (by decide) ?_
    refine lv_iload_n hx hb dX5_isSettingValue_69 rfl (lv_at hl 1 rfl) ?_
    refine lv_iconst (v := 0) hx hb dX5_isSettingValue_70 (by decide) ?_
    refine lv_bipush (v := 50) hx hb dX5_isSettingValue_71 (by decide) ?_
    refine z_si (As := [.int v, .int 0, .int 50]) (rest := []) (P2 := P) (r := zBi (¬ v < 0 ∧ ¬ 50 < v)) S (c_X5_in l G A (P) v 0 50) (cwS 3 hts gX5_isSettingValue_X5_in rfl rfl rfl (by decide +kernel) ⟨Nat.le_of_ble_eq_true rfl, Nat.le_of_ble_eq_true rfl⟩) hM hK hS (fun _ _ h => h) (fun _ h => h) hl.1 rfl rfl (Nat.le_of_ble_eq_true rfl) dX5_isSettingValue_73 ⟨Nat.le_refl _, Nat.le_refl _⟩ (fun H locs hM hS _ => ?_)
    exact z_zretE hx hb hr hlk hK hS (by first | (simp [zSvB]; done) | (simp [zBi, zSvB]; done) | grind [zSvB, zBi]) zBi_nar hM dX5_isSettingValue_76
  refine lv_tableOut (tgt := 77) hx hb dX5_isSettingValue_1 (zTb h0 h1 h2 h3 h4) (by decide) ?_
  refine lv_iload_n hx hb dX5_isSettingValue_77 rfl (lv_at hl 0 rfl) ?_
  refine lv_iconst (v := 5) hx hb dX5_isSettingValue_78 (by decide) ?_
  refine lv_icmp_ne (tgt := 95) hx hb dX5_isSettingValue_79 (by decide) (fun c_1 => ?_) (fun c_2 => ?_)
  · skip
    refine lv_iconst (v := 0) hx hb dX5_isSettingValue_95 (by decide) ?_
    exact z_zretE hx hb hr hlk hK hS (by first | (simp [zSvB, h0, h1, h2, h3, h4, c_1]; done) | (simp [zBi, zSvB, h0, h1, h2, h3, h4, c_1]; done) | grind [zSvB, zBi]) (by decide) hM dX5_isSettingValue_96
  · skip
    refine lv_iload_n hx hb dX5_isSettingValue_82 rfl (lv_at hl 1 rfl) ?_
    refine lv_iconst (v := 0) hx hb dX5_isSettingValue_83 (by decide) ?_
    refine lv_iconst (v := 1) hx hb dX5_isSettingValue_84 (by decide) ?_
    refine z_si (As := [.int v, .int 0, .int 1]) (rest := []) (P2 := P) (r := zBi (¬ v < 0 ∧ ¬ 1 < v)) S (c_X5_in l G A (P) v 0 1) (cwS 3 hts gX5_isSettingValue_X5_in rfl rfl rfl (by decide +kernel) ⟨Nat.le_of_ble_eq_true rfl, Nat.le_of_ble_eq_true rfl⟩) hM hK hS (fun _ _ h => h) (fun _ h => h) hl.1 rfl rfl (Nat.le_of_ble_eq_true rfl) dX5_isSettingValue_85 ⟨Nat.le_refl _, Nat.le_refl _⟩ (fun H locs hM hS _ => ?_)
    refine lv_if_eq (tgt := 95) hx hb dX5_isSettingValue_88 (by decide) (fun c_3 => ?_) (fun c_4 => ?_)
    · skip
      have c_3 := zBi_0.mp c_3
      refine lv_iconst (v := 0) hx hb dX5_isSettingValue_95 (by decide) ?_
      exact z_zretE hx hb hr hlk hK hS (by first | (simp [zSvB, h0, h1, h2, h3, h4, c_2, c_3]; done) | (simp [zBi, zSvB, h0, h1, h2, h3, h4, c_2, c_3]; done) | grind [zSvB, zBi]) (by decide) hM dX5_isSettingValue_96
    · skip
      have c_4 := zBi_n0.mp c_4
      refine lv_iconst (v := 1) hx hb dX5_isSettingValue_91 (by decide) ?_
      refine lv_goto (tgt := 96) hx hb dX5_isSettingValue_92 (by decide) ?_
      exact z_zretE hx hb hr hlk hK hS (by first | (simp [zSvB, h0, h1, h2, h3, h4, c_2, c_4]; done) | (simp [zBi, zSvB, h0, h1, h2, h3, h4, c_2, c_4]; done) | grind [zSvB, zBi]) (by decide) hM dX5_isSettingValue_96

theorem in_X5_setSetting_X5 : ∀ w ∈ wsX50, w ∈ wsX5_setSetting := by decide +kernel
set_option maxHeartbeats 4000000 in
set_option maxRecDepth 100000 in
theorem p_X5_setSetting (l : Launch) (G : zG) (A : Nat → Prop) (ad : Nat → Nat) (hA : zAm G ad A) (th : Int32) (cp hf : Nat → Int32) (d : Nat) (hd : d ≤ 6) (sl sv : Nat → Int32) (n : Nat) (hn12 : n ≤ 12) (g : Nat → Int32) (τ : zT) (x v : Int32) : zMi l G A yX5_setSetting wsX5_setSetting 2 43 [.ref (ad 0), .int x, .int v] (zMP G ad (th, cp, hf, nI d, sl, sv) n g τ) (if zSvB x v = 0 then -1 else (if g (3 + x.toNatClampNeg) = v then -2 else g (3 + x.toNatClampNeg))) (if zSvB x v = 0 then (zMP G ad (0, cp, hf, nI d, sl, sv) n g τ) else (if g (3 + x.toNatClampNeg) = v then (zMP G ad (0, cp, hf, nI d, sl, sv) n g τ) else (zMP G ad (0, cp, (zKf d (zMA n g τ) hf), nI (zKd d + 1), sl, sv) n (upd g (3 + x.toNatClampNeg) v) τ))) := by
  refine z_met (cc := cX5_setSetting) (maxL := 4) (ret := (some .int)) (by decide) rfl (Nat.le_of_ble_eq_true rfl) ?_
  intro p e s m below meth c ls S hr hlk hnm hM hK hl
  have S : CallFix p m c cX5_setSetting 4 s _ wsX5_setSetting RX5 := S
  obtain ⟨hx, hb, hml, hown, hts⟩ := id S
  have hS : va_S A s.heap s.heap [] := va_S.rf
  have hl : lv_has ls 4 [(0, .ref (ad 0)), (1, .int x), (2, .int v)] := hl
  refine lv_aload_n hx hb dX5_setSetting_0 rfl (lv_at hl 0 rfl) ?_
  refine lv_iconst (v := 0) hx hb dX5_setSetting_1 (by decide) ?_
  refine z_putM (w := 0) hx hb hts hown in_X5_setSetting_X5 hK hA hS hM 0 (by decide) rfl (hts _ (List.mem_of_getElem? (i := 1) (by decide +kernel))) (by decide +kernel) rfl (0, cp, hf, nI d, sl, sv) rfl ⟨rfl, rfl, rfl⟩ dX5_setSetting_2 (fun H locs hM hS => ?_)
  have hM : zMP G ad (0, cp, hf, nI d, sl, sv) n g τ H := hM
  refine lv_iload_n hx hb dX5_setSetting_5 rfl (lv_at hl 1 rfl) ?_
  refine lv_iload_n hx hb dX5_setSetting_6 rfl (lv_at hl 2 rfl) ?_
  refine z_si (As := [.int x, .int v]) (rest := []) (P2 := zMP G ad (0, cp, hf, nI d, sl, sv) n g τ) (r := zSvB x v) S (c_X5_isSettingValue l G A (zMP G ad (0, cp, hf, nI d, sl, sv) n g τ) x v) (cwS 2 hts gX5_setSetting_X5_isSettingValue rfl rfl rfl (by decide +kernel) ⟨Nat.le_of_ble_eq_true rfl, Nat.le_of_ble_eq_true rfl⟩) hM hK hS (fun _ _ h => h) (fun _ h => h) hl.1 rfl rfl (Nat.le_of_ble_eq_true rfl) dX5_setSetting_7 ⟨Nat.le_refl _, Nat.le_refl _⟩ (fun H locs hM hS _ => ?_)
  refine lv_if_ne (tgt := 15) hx hb dX5_setSetting_10 (by decide) (fun c_1 => ?_) (fun c_2 => ?_)
  · skip
    obtain ⟨j, hj, rfl⟩ := zSvB_of c_1
    have hc_j : (nI j).toNatClampNeg = j := nI_clamp (by omega)
    refine lv_aload_n hx hb dX5_setSetting_15 rfl (lv_at hl 0 rfl) ?_
    refine z_getM (v := .ref (ad 1)) hx hb hts hown in_X5_setSetting_X5 hK hM 1 (by decide) rfl (hts _ (List.mem_of_getElem? (i := 2) (by decide +kernel))) rfl dX5_setSetting_16 ?_
    refine lv_iconst (v := 3) hx hb dX5_setSetting_19 (by decide) ?_
    refine lv_iload_n hx hb dX5_setSetting_20 rfl (lv_at hl 1 rfl) ?_
    refine lv_iadd hx hb dX5_setSetting_21 ?_
    refine z_top (x2 := nI (3 + j)) (nI_add 3 j) ?_
    refine z_ldM (w := g (3 + j)) hx hb hK hM 1 rfl (3 + j) rfl (by omega) (by decide) (zMA_g n g τ (by omega) (by omega)) dX5_setSetting_22 ?_
    refine lv_istore_n (lv' := [(3, .int (g (3 + j))), (0, .ref (ad 0)), (1, .int (nI j)), (2, .int v)]) hx hb dX5_setSetting_23 rfl hl (by decide) rfl (fun ls hl => ?_)
    refine lv_iload_n hx hb dX5_setSetting_24 rfl (lv_at hl 0 rfl) ?_
    refine lv_iload_n hx hb dX5_setSetting_25 rfl (lv_at hl 3 rfl) ?_
    refine lv_icmp_ne (tgt := 32) hx hb dX5_setSetting_26 (by decide) (fun c_3 => ?_) (fun c_4 => ?_)
    · skip
      refine lv_aload_n hx hb dX5_setSetting_32 rfl (lv_at hl 1 rfl) ?_
      refine z_vv (As := []) (rest := []) (P2 := zMP G ad (0, cp, (zKf d (zMA n g τ) hf), nI (zKd d + 1), sl, sv) n g τ) S (r_X5_keep l G A ad hA 0 cp hf d hd sl sv (zMA n g τ) (zEr τ) (τ 9)) (cwV 0 hts gX5_setSetting_X5_keep rfl rfl rfl (by decide +kernel) ⟨Nat.le_of_ble_eq_true rfl, Nat.le_of_ble_eq_true rfl⟩) (z_recM hK hM) hM hK hS (fun _ _ h => h) (fun _ h => h) hl.1 rfl rfl (Nat.le_of_ble_eq_true rfl) dX5_setSetting_33 ⟨Nat.le_refl _, Nat.le_refl _⟩ (fun H locs hM hS _ => ?_)
      refine lv_aload_n hx hb dX5_setSetting_36 rfl (lv_at hl 1 rfl) ?_
      refine z_getM (v := .ref (ad 1)) hx hb hts hown in_X5_setSetting_X5 hK hM 1 (by decide) rfl (hts _ (List.mem_of_getElem? (i := 2) (by decide +kernel))) rfl dX5_setSetting_37 ?_
      refine lv_iconst (v := 3) hx hb dX5_setSetting_40 (by decide) ?_
      refine lv_iload_n hx hb dX5_setSetting_41 rfl (lv_at hl 2 rfl) ?_
      refine lv_iadd hx hb dX5_setSetting_42 ?_
      refine z_top (x2 := nI (3 + j)) (nI_add 3 j) ?_
      refine lv_iload_n hx hb dX5_setSetting_43 rfl (lv_at hl 3 rfl) ?_
      refine z_stM (w := v) hx hb hK hA hS hM 1 rfl (3 + j) rfl (by omega) (by decide) (zMP G ad (0, cp, (zKf d (zMA n g τ) hf), nI (zKd d + 1), sl, sv) n (upd g (3 + j) v) τ) (z_mf G ad (0, cp, (zKf d (zMA n g τ) hf), nI (zKd d + 1), sl, sv) n g τ (by omega) (by omega) v) dX5_setSetting_44 (fun H locs hM hS => ?_)
      refine lv_iload_n hx hb dX5_setSetting_45 rfl (lv_at hl 0 rfl) ?_
      exact z_iretE hx hb hr hlk hK hS (zIr_n (by first | assumption | (simp only [c_1, hc_j, c_3, eq_self, ne_eq, not_true_eq_false, not_false_eq_true, and_true, true_and, and_self, and_false, false_and, true_or, or_true, false_or, or_false, reduceIte]; done) | (simp [c_1, hc_j, c_3]; done) | grind) (zIr_n (by first | assumption | (simp only [c_1, hc_j, c_3, eq_self, ne_eq, not_true_eq_false, not_false_eq_true, and_true, true_and, and_self, and_false, false_and, true_or, or_true, false_or, or_false, reduceIte]; done) | (simp [c_1, hc_j, c_3]; done) | grind) (by first | rfl | (simp only [c_1, hc_j, c_3, eq_self, ne_eq, not_true_eq_false, not_false_eq_true, and_true, true_and, and_self, and_false, false_and, true_or, or_true, false_or, or_false, reduceIte]; done) | (simp [c_1, hc_j, c_3]; done)))) (zIf_n (by first | assumption | (simp only [c_1, hc_j, c_3, eq_self, ne_eq, not_true_eq_false, not_false_eq_true, and_true, true_and, and_self, and_false, false_and, true_or, or_true, false_or, or_false, reduceIte]; done) | (simp [c_1, hc_j, c_3]; done) | grind) (zIf_n (by first | assumption | (simp only [c_1, hc_j, c_3, eq_self, ne_eq, not_true_eq_false, not_false_eq_true, and_true, true_and, and_self, and_false, false_and, true_or, or_true, false_or, or_false, reduceIte]; done) | (simp [c_1, hc_j, c_3]; done) | grind) (by first | exact hM | (simpa only [c_1, hc_j, c_3, eq_self, ne_eq, not_true_eq_false, not_false_eq_true, and_true, true_and, and_self, and_false, false_and, true_or, or_true, false_or, or_false, reduceIte] using hM) | (simpa [c_1, hc_j, c_3] using hM)))) dX5_setSetting_46
    · skip
      refine lv_bipush (v := -2) hx hb dX5_setSetting_29 (by decide) ?_
      exact z_iretE hx hb hr hlk hK hS (zIr_n (by first | assumption | (simp only [c_1, hc_j, c_4, eq_self, ne_eq, not_true_eq_false, not_false_eq_true, and_true, true_and, and_self, and_false, false_and, true_or, or_true, false_or, or_false, reduceIte]; done) | (simp [c_1, hc_j, c_4]; done) | grind) (zIr_t (by first | assumption | (simp only [c_1, hc_j, c_4, eq_self, ne_eq, not_true_eq_false, not_false_eq_true, and_true, true_and, and_self, and_false, false_and, true_or, or_true, false_or, or_false, reduceIte]; done) | (simp [c_1, hc_j, c_4]; done) | grind) (by first | rfl | (simp only [c_1, hc_j, c_4, eq_self, ne_eq, not_true_eq_false, not_false_eq_true, and_true, true_and, and_self, and_false, false_and, true_or, or_true, false_or, or_false, reduceIte]; done) | (simp [c_1, hc_j, c_4]; done)))) (zIf_n (by first | assumption | (simp only [c_1, hc_j, c_4, eq_self, ne_eq, not_true_eq_false, not_false_eq_true, and_true, true_and, and_self, and_false, false_and, true_or, or_true, false_or, or_false, reduceIte]; done) | (simp [c_1, hc_j, c_4]; done) | grind) (zIf_t (by first | assumption | (simp only [c_1, hc_j, c_4, eq_self, ne_eq, not_true_eq_false, not_false_eq_true, and_true, true_and, and_self, and_false, false_and, true_or, or_true, false_or, or_false, reduceIte]; done) | (simp [c_1, hc_j, c_4]; done) | grind) (by first | exact hM | (simpa only [c_1, hc_j, c_4, eq_self, ne_eq, not_true_eq_false, not_false_eq_true, and_true, true_and, and_self, and_false, false_and, true_or, or_true, false_or, or_false, reduceIte] using hM) | (simpa [c_1, hc_j, c_4] using hM)))) dX5_setSetting_31
  · skip
    refine lv_iconst (v := -1) hx hb dX5_setSetting_13 (by decide) ?_
    exact z_iretE hx hb hr hlk hK hS (zIr_t (by first | assumption | (simp only [c_2, eq_self, ne_eq, not_true_eq_false, not_false_eq_true, and_true, true_and, and_self, and_false, false_and, true_or, or_true, false_or, or_false, reduceIte]; done) | (simp [c_2]; done) | grind) (by first | rfl | (simp only [c_2, eq_self, ne_eq, not_true_eq_false, not_false_eq_true, and_true, true_and, and_self, and_false, false_and, true_or, or_true, false_or, or_false, reduceIte]; done) | (simp [c_2]; done))) (zIf_t (by first | assumption | (simp only [c_2, eq_self, ne_eq, not_true_eq_false, not_false_eq_true, and_true, true_and, and_self, and_false, false_and, true_or, or_true, false_or, or_false, reduceIte]; done) | (simp [c_2]; done) | grind) (by first | exact hM | (simpa only [c_2, eq_self, ne_eq, not_true_eq_false, not_false_eq_true, and_true, true_and, and_self, and_false, false_and, true_or, or_true, false_or, or_false, reduceIte] using hM) | (simpa [c_2] using hM))) dX5_setSetting_14

theorem in_X5_undo_X5 : ∀ w ∈ wsX50, w ∈ wsX5_undo := by decide +kernel
set_option maxHeartbeats 4000000 in
set_option maxRecDepth 100000 in
theorem p_X5_undo (l : Launch) (G : zG) (A : Nat → Prop) (ad : Nat → Nat) (hA : zAm G ad A) (th : Int32) (cp hf : Nat → Int32) (d : Nat) (hd : d ≤ 6) (sl sv σ el wi : Nat → Int32) : zMi l G A yX5_undo wsX5_undo 0 0 [.ref (ad 0)] (zMQ G ad (th, cp, hf, nI d, sl, sv) σ el wi) (if d = 0 then -2 else nI (d - 1)) (if d = 0 then (zMQ G ad (0, cp, hf, nI d, sl, sv) σ el wi) else (zMQ G ad (0, cp, hf, nI (d - 1), sl, sv) (va_cpy hf σ (123 * (d - 1)) 0 123) el wi)) := by
  refine z_met (cc := cX5_undo) (maxL := 2) (ret := (some .int)) (by decide) rfl (Nat.le_of_ble_eq_true rfl) ?_
  intro p e s m below meth c ls S hr hlk hnm hM hK hl
  have S : CallFix p m c cX5_undo 2 s _ wsX5_undo RX5 := S
  obtain ⟨hx, hb, hml, hown, hts⟩ := id S
  have hS : va_S A s.heap s.heap [] := va_S.rf
  have hl : lv_has ls 2 [(0, .ref (ad 0))] := hl
  refine lv_aload_n hx hb dX5_undo_0 rfl (lv_at hl 0 rfl) ?_
  refine lv_iconst (v := 0) hx hb dX5_undo_1 (by decide) ?_
  refine z_putM (w := 0) hx hb hts hown in_X5_undo_X5 hK hA hS hM 0 (by decide) rfl (hts _ (List.mem_of_getElem? (i := 1) (by decide +kernel))) (by decide +kernel) rfl (0, cp, hf, nI d, sl, sv) rfl ⟨rfl, rfl, rfl⟩ dX5_undo_2 (fun H locs hM hS => ?_)
  refine lv_aload_n hx hb dX5_undo_5 rfl (lv_at hl 0 rfl) ?_
  refine z_getM (v := .int (nI d)) hx hb hts hown in_X5_undo_X5 hK hM 4 (by decide) rfl (hts _ (List.mem_of_getElem? (i := 2) (by decide +kernel))) rfl dX5_undo_6 ?_
  refine lv_if_ne (tgt := 15) hx hb dX5_undo_9 (by decide) (fun c_1 => ?_) (fun c_2 => ?_)
  · skip
    have c_1 : ¬ d = 0 := (not_congr (z_eqI (a := d) (b := 0) (by omega) (by omega))).mp c_1
    refine lv_aload_n hx hb dX5_undo_15 rfl (lv_at hl 0 rfl) ?_
    refine lv_dup hx hb dX5_undo_16 rfl ?_
    refine z_getM (v := .int (nI d)) hx hb hts hown in_X5_undo_X5 hK hM 4 (by decide) rfl (hts _ (List.mem_of_getElem? (i := 2) (by decide +kernel))) rfl dX5_undo_17 ?_
    refine lv_iconst (v := 1) hx hb dX5_undo_20 (by decide) ?_
    refine lv_isub hx hb dX5_undo_21 ?_
    refine z_top (x2 := nI (d - 1)) (pk_sub (a := d) (b := 1) (by omega)) ?_
    refine z_putM (w := nI (d - 1)) hx hb hts hown in_X5_undo_X5 hK hA hS hM 4 (by decide) rfl (hts _ (List.mem_of_getElem? (i := 2) (by decide +kernel))) (by decide +kernel) rfl (0, cp, hf, nI (d - 1), sl, sv) rfl ⟨rfl, rfl, rfl⟩ dX5_undo_22 (fun H locs hM hS => ?_)
    refine lv_iconst (v := 0) hx hb dX5_undo_25 (by decide) ?_
    refine lv_istore_n (lv' := [(1, .int 0), (0, .ref (ad 0))]) hx hb dX5_undo_26 rfl hl (by decide) rfl (fun ls hl => ?_)
    have loop1 : ∀ (f1 k : Nat) (H : Heap) (locs : List Loc) (ls : Array Slot), k ≤ 123 → 123 < k + f1 → zMQ G ad (0, cp, hf, nI (d - 1), sl, sv) (va_cpy hf σ (123 * (d - 1)) 0 k) el wi H → va_S A s.heap H locs → lv_has ls 2 [(1, .int (nI k)), (0, .ref (ad 0))] → W p l e ({ frames := 0, cells := 0, slots := 0, locals := 0 } : Room) s m ([.ref (ad 0)] : List Value).toArray below meth c H locs 0 0 (MQ below (zQi G (if d = 0 then -2 else nI (d - 1)) (if d = 0 then (zMQ G ad (0, cp, hf, nI d, sl, sv) σ el wi) else (zMQ G ad (0, cp, hf, nI (d - 1), sl, sv) (va_cpy hf σ (123 * (d - 1)) 0 123) el wi)) A) ([.ref (ad 0)] : List Value).toArray s 0 0 A) (F0 m 27 ls []) := by
      intro f1
      induction f1 with
      | zero => intro k H locs ls h1 h2; exact absurd h2 (by omega)
      | succ f1 ih1 =>
        intro k H locs ls hk1 hf1 hM hS hl
        generalize hF_fk : va_cpy hf σ (123 * (d - 1)) 0 k = fk at hM hl 
        refine lv_iload_n hx hb dX5_undo_27 rfl (lv_at hl 0 rfl) ?_
        refine lv_bipush (v := 123) hx hb dX5_undo_28 (by decide) ?_
        refine lv_icmp_ge (tgt := 59) hx hb dX5_undo_30 (by decide) (fun c_3 => ?_) (fun c_4 => ?_)
        · skip
          have c_3 := (z_leI (a := 123) (b := k) (by omega) (by omega)).mp c_3
          have hkn1 : k = 123 := by omega
          rw [hkn1] at hF_fk
          subst hF_fk
          refine lv_aload_n hx hb dX5_undo_59 rfl (lv_at hl 1 rfl) ?_
          refine z_getM (v := .int (nI (d - 1))) hx hb hts hown in_X5_undo_X5 hK hM 4 (by decide) rfl (hts _ (List.mem_of_getElem? (i := 2) (by decide +kernel))) rfl dX5_undo_60 ?_
          exact z_iretE hx hb hr hlk hK hS (zIr_n (by first | assumption | (simp only [c_1, c_3, eq_self, ne_eq, not_true_eq_false, not_false_eq_true, and_true, true_and, and_self, and_false, false_and, true_or, or_true, false_or, or_false, reduceIte]; done) | (simp [c_1, c_3]; done) | grind) (by first | rfl | (simp only [c_1, c_3, eq_self, ne_eq, not_true_eq_false, not_false_eq_true, and_true, true_and, and_self, and_false, false_and, true_or, or_true, false_or, or_false, reduceIte]; done) | (simp [c_1, c_3]; done))) (zIf_n (by first | assumption | (simp only [c_1, c_3, eq_self, ne_eq, not_true_eq_false, not_false_eq_true, and_true, true_and, and_self, and_false, false_and, true_or, or_true, false_or, or_false, reduceIte]; done) | (simp [c_1, c_3]; done) | grind) (by first | exact hM | (simpa only [c_1, c_3, eq_self, ne_eq, not_true_eq_false, not_false_eq_true, and_true, true_and, and_self, and_false, false_and, true_or, or_true, false_or, or_false, reduceIte] using hM) | (simpa [c_1, c_3] using hM))) dX5_undo_63
        · skip
          have c_4 := (not_congr (z_leI (a := 123) (b := k) (by omega) (by omega))).mp c_4
          refine lv_aload_n hx hb dX5_undo_33 rfl (lv_at hl 1 rfl) ?_
          refine z_getM (v := .ref (ad 1)) hx hb hts hown in_X5_undo_X5 hK hM 1 (by decide) rfl (hts _ (List.mem_of_getElem? (i := 3) (by decide +kernel))) rfl dX5_undo_34 ?_
          refine lv_iload_n hx hb dX5_undo_37 rfl (lv_at hl 0 rfl) ?_
          refine lv_aload_n hx hb dX5_undo_38 rfl (lv_at hl 1 rfl) ?_
          refine z_getM (v := .ref (ad 3)) hx hb hts hown in_X5_undo_X5 hK hM 3 (by decide) rfl (hts _ (List.mem_of_getElem? (i := 4) (by decide +kernel))) rfl dX5_undo_39 ?_
          refine lv_bipush (v := 123) hx hb dX5_undo_42 (by decide) ?_
          refine lv_aload_n hx hb dX5_undo_44 rfl (lv_at hl 1 rfl) ?_
          refine z_getM (v := .int (nI (d - 1))) hx hb hts hown in_X5_undo_X5 hK hM 4 (by decide) rfl (hts _ (List.mem_of_getElem? (i := 2) (by decide +kernel))) rfl dX5_undo_45 ?_
          refine lv_imul hx hb dX5_undo_48 ?_
          refine z_top (x2 := nI (123 * (d - 1))) (pk_mul 123 (d - 1)) ?_
          refine lv_iload_n hx hb dX5_undo_49 rfl (lv_at hl 0 rfl) ?_
          refine lv_iadd hx hb dX5_undo_50 ?_
          refine z_top (x2 := nI ((123 * (d - 1)) + k)) (nI_add (123 * (d - 1)) k) ?_
          refine z_ldM (w := hf ((123 * (d - 1)) + k)) hx hb hK hM 3 rfl ((123 * (d - 1)) + k) rfl (by omega) (by decide) rfl dX5_undo_51 ?_
          refine z_stM (w := hf ((123 * (d - 1)) + k)) hx hb hK hA hS hM 1 rfl k rfl (by omega) (by decide) (zMQ G ad (0, cp, hf, nI (d - 1), sl, sv) (upd fk k (hf ((123 * (d - 1)) + k))) el wi) (fun _ h => h) dX5_undo_52 (fun H locs hM hS => ?_)
          refine lv_iinc (v := nI (k + 1)) (lv' := [(1, .int (nI (k + 1))), (0, .ref (ad 0))]) hx hb dX5_undo_53 hl (k := 0) rfl (nI_1 _) (by decide) rfl (fun ls hl => ?_)
          refine lv_goto (tgt := 27) hx hb dX5_undo_56 (by decide) ?_
          have e_k : (upd fk k (hf ((123 * (d - 1)) + k))) = va_cpy hf σ (123 * (d - 1)) 0 (k + 1) := by rw [← hF_fk]; exact zCp_s1 _ _ _ _
          refine ih1 (k + 1) _ _ _ (by omega) (by omega) (by rw [← e_k]; exact hM) hS (lv_sub hl [0, 1] rfl)
    exact loop1 (123 + 1) 0 _ _ _ (by omega) (by omega) (by rw [zCp_0]; exact hM) hS (lv_sub hl [0, 1] rfl)
  · skip
    have c_2 : d = 0 :=  (z_eqI (a := d) (b := 0) (by omega) (by omega)).mp c_2
    refine lv_bipush (v := -2) hx hb dX5_undo_12 (by decide) ?_
    exact z_iretE hx hb hr hlk hK hS (zIr_t (by first | assumption | (simp only [c_2, eq_self, ne_eq, not_true_eq_false, not_false_eq_true, and_true, true_and, and_self, and_false, false_and, true_or, or_true, false_or, or_false, reduceIte]; done) | (simp [c_2]; done) | grind) (by first | rfl | (simp only [c_2, eq_self, ne_eq, not_true_eq_false, not_false_eq_true, and_true, true_and, and_self, and_false, false_and, true_or, or_true, false_or, or_false, reduceIte]; done) | (simp [c_2]; done))) (zIf_t (by first | assumption | (simp only [c_2, eq_self, ne_eq, not_true_eq_false, not_false_eq_true, and_true, true_and, and_self, and_false, false_and, true_or, or_true, false_or, or_false, reduceIte]; done) | (simp [c_2]; done) | grind) (by first | exact hM | (simpa only [c_2, eq_self, ne_eq, not_true_eq_false, not_false_eq_true, and_true, true_and, and_self, and_false, false_and, true_or, or_true, false_or, or_false, reduceIte] using hM) | (simpa [c_2] using hM))) dX5_undo_14

theorem in_X5_save_X5 : ∀ w ∈ wsX50, w ∈ wsX5_save := by decide +kernel
set_option maxHeartbeats 4000000 in
set_option maxRecDepth 100000 in
theorem p_X5_save (l : Launch) (G : zG) (A : Nat → Prop) (ad : Nat → Nat) (hA : zAm G ad A) (th : Int32) (cp hf : Nat → Int32) (d : Nat) (hd : d ≤ 6) (sl sv σ el wi : Nat → Int32) (x : Int32) : zMi l G A yX5_save wsX5_save 1 22 [.ref (ad 0), .int x] (zMQ G ad (th, cp, hf, nI d, sl, sv) σ el wi) (if ¬ (¬ x < 0 ∧ ¬ 1 < x) then -1 else σ 0) (if ¬ (¬ x < 0 ∧ ¬ 1 < x) then (zMQ G ad (0, cp, hf, nI d, sl, sv) σ el wi) else (zMQ G ad (0, cp, hf, nI d, (va_cpy σ sl 0 (123 * x.toNatClampNeg) 123), (upd sv x.toNatClampNeg 1)) σ el wi)) := by
  refine z_met (cc := cX5_save) (maxL := 3) (ret := (some .int)) (by decide) rfl (Nat.le_of_ble_eq_true rfl) ?_
  intro p e s m below meth c ls S hr hlk hnm hM hK hl
  have S : CallFix p m c cX5_save 3 s _ wsX5_save RX5 := S
  obtain ⟨hx, hb, hml, hown, hts⟩ := id S
  have hS : va_S A s.heap s.heap [] := va_S.rf
  have hl : lv_has ls 3 [(0, .ref (ad 0)), (1, .int x)] := hl
  refine lv_aload_n hx hb dX5_save_0 rfl (lv_at hl 0 rfl) ?_
  refine lv_iconst (v := 0) hx hb dX5_save_1 (by decide) ?_
  refine z_putM (w := 0) hx hb hts hown in_X5_save_X5 hK hA hS hM 0 (by decide) rfl (hts _ (List.mem_of_getElem? (i := 1) (by decide +kernel))) (by decide +kernel) rfl (0, cp, hf, nI d, sl, sv) rfl ⟨rfl, rfl, rfl⟩ dX5_save_2 (fun H locs hM hS => ?_)
  refine lv_iload_n hx hb dX5_save_5 rfl (lv_at hl 1 rfl) ?_
  refine lv_iconst (v := 0) hx hb dX5_save_6 (by decide) ?_
  refine lv_iconst (v := 1) hx hb dX5_save_7 (by decide) ?_
  refine z_si (As := [.int x, .int 0, .int 1]) (rest := []) (P2 := zMQ G ad (0, cp, hf, nI d, sl, sv) σ el wi) (r := zBi (¬ x < 0 ∧ ¬ 1 < x)) S (c_X5_in l G A (zMQ G ad (0, cp, hf, nI d, sl, sv) σ el wi) x 0 1) (cwS 3 hts gX5_save_X5_in rfl rfl rfl (by decide +kernel) ⟨Nat.le_of_ble_eq_true rfl, Nat.le_of_ble_eq_true rfl⟩) hM hK hS (fun _ _ h => h) (fun _ h => h) hl.1 rfl rfl (Nat.le_of_ble_eq_true rfl) dX5_save_8 ⟨Nat.le_refl _, Nat.le_refl _⟩ (fun H locs hM hS _ => ?_)
  refine lv_if_ne (tgt := 16) hx hb dX5_save_11 (by decide) (fun c_1 => ?_) (fun c_2 => ?_)
  · skip
    have c_1 := zBi_n0.mp c_1
    obtain ⟨lim, hlim1, hlim2, rfl⟩ := zLe_of (a := 0) (b := 1) (by omega) (by omega) c_1
    have hc_lim : (nI lim).toNatClampNeg = lim := nI_clamp (by omega)
    refine lv_iconst (v := 0) hx hb dX5_save_16 (by decide) ?_
    refine lv_istore_n (lv' := [(2, .int 0), (0, .ref (ad 0)), (1, .int (nI lim))]) hx hb dX5_save_17 rfl hl (by decide) rfl (fun ls hl => ?_)
    have loop1 : ∀ (f1 k : Nat) (H : Heap) (locs : List Loc) (ls : Array Slot), k ≤ 123 → 123 < k + f1 → zMQ G ad (0, cp, hf, nI d, (va_cpy σ sl 0 (123 * lim) k), sv) σ el wi H → va_S A s.heap H locs → lv_has ls 3 [(2, .int (nI k)), (0, .ref (ad 0)), (1, .int (nI lim))] → W p l e ({ frames := 1, cells := 0, slots := 0, locals := 22 } : Room) s m ([.ref (ad 0), .int (nI lim)] : List Value).toArray below meth c H locs 0 0 (MQ below (zQi G (if ¬ (¬ (nI lim) < 0 ∧ ¬ 1 < (nI lim)) then -1 else σ 0) (if ¬ (¬ (nI lim) < 0 ∧ ¬ 1 < (nI lim)) then (zMQ G ad (0, cp, hf, nI d, sl, sv) σ el wi) else (zMQ G ad (0, cp, hf, nI d, (va_cpy σ sl 0 (123 * (nI lim).toNatClampNeg) 123), (upd sv (nI lim).toNatClampNeg 1)) σ el wi)) A) ([.ref (ad 0), .int (nI lim)] : List Value).toArray s 0 0 A) (F0 m 18 ls []) := by
      intro f1
      induction f1 with
      | zero => intro k H locs ls h1 h2; exact absurd h2 (by omega)
      | succ f1 ih1 =>
        intro k H locs ls hk1 hf1 hM hS hl
        generalize hF_fk : va_cpy σ sl 0 (123 * lim) k = fk at hM hl 
        refine lv_iload_n hx hb dX5_save_18 rfl (lv_at hl 0 rfl) ?_
        refine lv_bipush (v := 123) hx hb dX5_save_19 (by decide) ?_
        refine lv_icmp_ge (tgt := 47) hx hb dX5_save_21 (by decide) (fun c_3 => ?_) (fun c_4 => ?_)
        · skip
          have c_3 := (z_leI (a := 123) (b := k) (by omega) (by omega)).mp c_3
          have hkn1 : k = 123 := by omega
          rw [hkn1] at hF_fk
          subst hF_fk
          refine lv_aload_n hx hb dX5_save_47 rfl (lv_at hl 1 rfl) ?_
          refine z_getM (v := .ref (ad 5)) hx hb hts hown in_X5_save_X5 hK hM 6 (by decide) rfl (hts _ (List.mem_of_getElem? (i := 4) (by decide +kernel))) rfl dX5_save_48 ?_
          refine lv_iload_n hx hb dX5_save_51 rfl (lv_at hl 2 rfl) ?_
          refine lv_iconst (v := 1) hx hb dX5_save_52 (by decide) ?_
          refine z_stMz (w := 1) hx hb hK hA hS hM 5 rfl (by decide) lim rfl (by omega) (by decide) (zMQ G ad (0, cp, hf, nI d, (va_cpy σ sl 0 (123 * lim) 123), (upd sv lim 1)) σ el wi) (fun _ h => h) dX5_save_53 (fun H locs hM hS => ?_)
          refine lv_aload_n hx hb dX5_save_54 rfl (lv_at hl 1 rfl) ?_
          refine z_getM (v := .ref (ad 1)) hx hb hts hown in_X5_save_X5 hK hM 1 (by decide) rfl (hts _ (List.mem_of_getElem? (i := 3) (by decide +kernel))) rfl dX5_save_55 ?_
          refine lv_iconst (v := 0) hx hb dX5_save_58 (by decide) ?_
          refine z_ldM (w := σ 0) hx hb hK hM 1 rfl 0 (by decide) (by omega) (by decide) rfl dX5_save_59 ?_
          exact z_iretE hx hb hr hlk hK hS (zIr_n (by first | assumption | (simp only [c_1, hc_lim, c_3, eq_self, ne_eq, not_true_eq_false, not_false_eq_true, and_true, true_and, and_self, and_false, false_and, true_or, or_true, false_or, or_false, reduceIte]; done) | (simp [c_1, hc_lim, c_3]; done) | grind) (by first | rfl | (simp only [c_1, hc_lim, c_3, eq_self, ne_eq, not_true_eq_false, not_false_eq_true, and_true, true_and, and_self, and_false, false_and, true_or, or_true, false_or, or_false, reduceIte]; done) | (simp [c_1, hc_lim, c_3]; done))) (zIf_n (by first | assumption | (simp only [c_1, hc_lim, c_3, eq_self, ne_eq, not_true_eq_false, not_false_eq_true, and_true, true_and, and_self, and_false, false_and, true_or, or_true, false_or, or_false, reduceIte]; done) | (simp [c_1, hc_lim, c_3]; done) | grind) (by first | exact hM | (simpa only [c_1, hc_lim, c_3, eq_self, ne_eq, not_true_eq_false, not_false_eq_true, and_true, true_and, and_self, and_false, false_and, true_or, or_true, false_or, or_false, reduceIte] using hM) | (simpa [c_1, hc_lim, c_3] using hM))) dX5_save_60
        · skip
          have c_4 := (not_congr (z_leI (a := 123) (b := k) (by omega) (by omega))).mp c_4
          refine lv_aload_n hx hb dX5_save_24 rfl (lv_at hl 1 rfl) ?_
          refine z_getM (v := .ref (ad 4)) hx hb hts hown in_X5_save_X5 hK hM 5 (by decide) rfl (hts _ (List.mem_of_getElem? (i := 2) (by decide +kernel))) rfl dX5_save_25 ?_
          refine lv_bipush (v := 123) hx hb dX5_save_28 (by decide) ?_
          refine lv_iload_n hx hb dX5_save_30 rfl (lv_at hl 2 rfl) ?_
          refine lv_imul hx hb dX5_save_31 ?_
          refine z_top (x2 := nI (123 * lim)) (pk_mul 123 lim) ?_
          refine lv_iload_n hx hb dX5_save_32 rfl (lv_at hl 0 rfl) ?_
          refine lv_iadd hx hb dX5_save_33 ?_
          refine z_top (x2 := nI ((123 * lim) + k)) (nI_add (123 * lim) k) ?_
          refine lv_aload_n hx hb dX5_save_34 rfl (lv_at hl 1 rfl) ?_
          refine z_getM (v := .ref (ad 1)) hx hb hts hown in_X5_save_X5 hK hM 1 (by decide) rfl (hts _ (List.mem_of_getElem? (i := 3) (by decide +kernel))) rfl dX5_save_35 ?_
          refine lv_iload_n hx hb dX5_save_38 rfl (lv_at hl 0 rfl) ?_
          refine z_ldM (w := σ k) hx hb hK hM 1 rfl k rfl (by omega) (by decide) rfl dX5_save_39 ?_
          refine z_stM (w := σ k) hx hb hK hA hS hM 4 rfl ((123 * lim) + k) rfl (by omega) (by decide) (zMQ G ad (0, cp, hf, nI d, (upd fk ((123 * lim) + k) (σ k)), sv) σ el wi) (fun _ h => h) dX5_save_40 (fun H locs hM hS => ?_)
          refine lv_iinc (v := nI (k + 1)) (lv' := [(2, .int (nI (k + 1))), (0, .ref (ad 0)), (1, .int (nI lim))]) hx hb dX5_save_41 hl (k := 0) rfl (nI_1 _) (by decide) rfl (fun ls hl => ?_)
          refine lv_goto (tgt := 18) hx hb dX5_save_44 (by decide) ?_
          have e_k : (upd fk ((123 * lim) + k) (σ k)) = va_cpy σ sl 0 (123 * lim) (k + 1) := by rw [← hF_fk]; exact zCp_s2 _ _ _ _
          refine ih1 (k + 1) _ _ _ (by omega) (by omega) (by rw [← e_k]; exact hM) hS (lv_sub hl [0, 1, 2] rfl)
    exact loop1 (123 + 1) 0 _ _ _ (by omega) (by omega) (by rw [zCp_0]; exact hM) hS (lv_sub hl [0, 1, 2] rfl)
  · skip
    have c_2 := zBi_0.mp c_2
    refine lv_iconst (v := -1) hx hb dX5_save_14 (by decide) ?_
    exact z_iretE hx hb hr hlk hK hS (zIr_t (by first | assumption | (simp only [c_2, eq_self, ne_eq, not_true_eq_false, not_false_eq_true, and_true, true_and, and_self, and_false, false_and, true_or, or_true, false_or, or_false, reduceIte]; done) | (simp [c_2]; done) | grind) (by first | rfl | (simp only [c_2, eq_self, ne_eq, not_true_eq_false, not_false_eq_true, and_true, true_and, and_self, and_false, false_and, true_or, or_true, false_or, or_false, reduceIte]; done) | (simp [c_2]; done))) (zIf_t (by first | assumption | (simp only [c_2, eq_self, ne_eq, not_true_eq_false, not_false_eq_true, and_true, true_and, and_self, and_false, false_and, true_or, or_true, false_or, or_false, reduceIte]; done) | (simp [c_2]; done) | grind) (by first | exact hM | (simpa only [c_2, eq_self, ne_eq, not_true_eq_false, not_false_eq_true, and_true, true_and, and_self, and_false, false_and, true_or, or_true, false_or, or_false, reduceIte] using hM) | (simpa [c_2] using hM))) dX5_save_15

theorem in_X5_restore_X5 : ∀ w ∈ wsX50, w ∈ wsX5_restore := by decide +kernel
set_option maxHeartbeats 4000000 in
set_option maxRecDepth 100000 in
theorem p_X5_restore (l : Launch) (G : zG) (A : Nat → Prop) (ad : Nat → Nat) (hA : zAm G ad A) (th : Int32) (cp hf : Nat → Int32) (d : Nat) (hd : d ≤ 6) (sl sv σ el wi : Nat → Int32) (x : Int32) : zMi l G A yX5_restore wsX5_restore 1 22 [.ref (ad 0), .int x] (zMQ G ad (th, cp, hf, nI d, sl, sv) σ el wi) (if ¬ (¬ x < 0 ∧ ¬ 1 < x) then -1 else (if sv x.toNatClampNeg = 0 then -2 else sl (123 * x.toNatClampNeg))) (if ¬ (¬ x < 0 ∧ ¬ 1 < x) then (zMQ G ad (0, cp, hf, nI d, sl, sv) σ el wi) else (if sv x.toNatClampNeg = 0 then (zMQ G ad (0, cp, hf, nI d, sl, sv) σ el wi) else (zMQ G ad (0, cp, hf, 0, sl, sv) (va_cpy sl σ (123 * x.toNatClampNeg) 0 123) el wi))) := by
  refine z_met (cc := cX5_restore) (maxL := 3) (ret := (some .int)) (by decide) rfl (Nat.le_of_ble_eq_true rfl) ?_
  intro p e s m below meth c ls S hr hlk hnm hM hK hl
  have S : CallFix p m c cX5_restore 3 s _ wsX5_restore RX5 := S
  obtain ⟨hx, hb, hml, hown, hts⟩ := id S
  have hS : va_S A s.heap s.heap [] := va_S.rf
  have hl : lv_has ls 3 [(0, .ref (ad 0)), (1, .int x)] := hl
  refine lv_aload_n hx hb dX5_restore_0 rfl (lv_at hl 0 rfl) ?_
  refine lv_iconst (v := 0) hx hb dX5_restore_1 (by decide) ?_
  refine z_putM (w := 0) hx hb hts hown in_X5_restore_X5 hK hA hS hM 0 (by decide) rfl (hts _ (List.mem_of_getElem? (i := 1) (by decide +kernel))) (by decide +kernel) rfl (0, cp, hf, nI d, sl, sv) rfl ⟨rfl, rfl, rfl⟩ dX5_restore_2 (fun H locs hM hS => ?_)
  refine lv_iload_n hx hb dX5_restore_5 rfl (lv_at hl 1 rfl) ?_
  refine lv_iconst (v := 0) hx hb dX5_restore_6 (by decide) ?_
  refine lv_iconst (v := 1) hx hb dX5_restore_7 (by decide) ?_
  refine z_si (As := [.int x, .int 0, .int 1]) (rest := []) (P2 := zMQ G ad (0, cp, hf, nI d, sl, sv) σ el wi) (r := zBi (¬ x < 0 ∧ ¬ 1 < x)) S (c_X5_in l G A (zMQ G ad (0, cp, hf, nI d, sl, sv) σ el wi) x 0 1) (cwS 3 hts gX5_restore_X5_in rfl rfl rfl (by decide +kernel) ⟨Nat.le_of_ble_eq_true rfl, Nat.le_of_ble_eq_true rfl⟩) hM hK hS (fun _ _ h => h) (fun _ h => h) hl.1 rfl rfl (Nat.le_of_ble_eq_true rfl) dX5_restore_8 ⟨Nat.le_refl _, Nat.le_refl _⟩ (fun H locs hM hS _ => ?_)
  refine lv_if_ne (tgt := 16) hx hb dX5_restore_11 (by decide) (fun c_1 => ?_) (fun c_2 => ?_)
  · skip
    have c_1 := zBi_n0.mp c_1
    obtain ⟨lim, hlim1, hlim2, rfl⟩ := zLe_of (a := 0) (b := 1) (by omega) (by omega) c_1
    have hc_lim : (nI lim).toNatClampNeg = lim := nI_clamp (by omega)
    refine lv_aload_n hx hb dX5_restore_16 rfl (lv_at hl 0 rfl) ?_
    refine z_getM (v := .ref (ad 5)) hx hb hts hown in_X5_restore_X5 hK hM 6 (by decide) rfl (hts _ (List.mem_of_getElem? (i := 2) (by decide +kernel))) rfl dX5_restore_17 ?_
    refine lv_iload_n hx hb dX5_restore_20 rfl (lv_at hl 1 rfl) ?_
    refine z_ldMz (w := sv lim) hx hb hK hM 5 rfl lim rfl (by omega) (by decide) rfl dX5_restore_21 ?_
    refine lv_if_ne (tgt := 28) hx hb dX5_restore_22 (by decide) (fun c_3 => ?_) (fun c_4 => ?_)
    · skip
      refine lv_iconst (v := 0) hx hb dX5_restore_28 (by decide) ?_
      refine lv_istore_n (lv' := [(2, .int 0), (0, .ref (ad 0)), (1, .int (nI lim))]) hx hb dX5_restore_29 rfl hl (by decide) rfl (fun ls hl => ?_)
      have loop1 : ∀ (f1 k : Nat) (H : Heap) (locs : List Loc) (ls : Array Slot), k ≤ 123 → 123 < k + f1 → zMQ G ad (0, cp, hf, nI d, sl, sv) (va_cpy sl σ (123 * lim) 0 k) el wi H → va_S A s.heap H locs → lv_has ls 3 [(2, .int (nI k)), (0, .ref (ad 0)), (1, .int (nI lim))] → W p l e ({ frames := 1, cells := 0, slots := 0, locals := 22 } : Room) s m ([.ref (ad 0), .int (nI lim)] : List Value).toArray below meth c H locs 0 0 (MQ below (zQi G (if ¬ (¬ (nI lim) < 0 ∧ ¬ 1 < (nI lim)) then -1 else (if sv (nI lim).toNatClampNeg = 0 then -2 else sl (123 * (nI lim).toNatClampNeg))) (if ¬ (¬ (nI lim) < 0 ∧ ¬ 1 < (nI lim)) then (zMQ G ad (0, cp, hf, nI d, sl, sv) σ el wi) else (if sv (nI lim).toNatClampNeg = 0 then (zMQ G ad (0, cp, hf, nI d, sl, sv) σ el wi) else (zMQ G ad (0, cp, hf, 0, sl, sv) (va_cpy sl σ (123 * (nI lim).toNatClampNeg) 0 123) el wi))) A) ([.ref (ad 0), .int (nI lim)] : List Value).toArray s 0 0 A) (F0 m 30 ls []) := by
        intro f1
        induction f1 with
        | zero => intro k H locs ls h1 h2; exact absurd h2 (by omega)
        | succ f1 ih1 =>
          intro k H locs ls hk1 hf1 hM hS hl
          generalize hF_fk : va_cpy sl σ (123 * lim) 0 k = fk at hM hl 
          refine lv_iload_n hx hb dX5_restore_30 rfl (lv_at hl 0 rfl) ?_
          refine lv_bipush (v := 123) hx hb dX5_restore_31 (by decide) ?_
          refine lv_icmp_ge (tgt := 59) hx hb dX5_restore_33 (by decide) (fun c_5 => ?_) (fun c_6 => ?_)
          · skip
            have c_5 := (z_leI (a := 123) (b := k) (by omega) (by omega)).mp c_5
            have hkn1 : k = 123 := by omega
            rw [hkn1] at hF_fk
            subst hF_fk
            refine lv_aload_n hx hb dX5_restore_59 rfl (lv_at hl 1 rfl) ?_
            refine lv_iconst (v := 0) hx hb dX5_restore_60 (by decide) ?_
            refine z_putM (w := 0) hx hb hts hown in_X5_restore_X5 hK hA hS hM 4 (by decide) rfl (hts _ (List.mem_of_getElem? (i := 5) (by decide +kernel))) (by decide +kernel) rfl (0, cp, hf, 0, sl, sv) rfl ⟨rfl, rfl, rfl⟩ dX5_restore_61 (fun H locs hM hS => ?_)
            refine lv_aload_n hx hb dX5_restore_64 rfl (lv_at hl 1 rfl) ?_
            refine z_getM (v := .ref (ad 1)) hx hb hts hown in_X5_restore_X5 hK hM 1 (by decide) rfl (hts _ (List.mem_of_getElem? (i := 3) (by decide +kernel))) rfl dX5_restore_65 ?_
            refine lv_iconst (v := 0) hx hb dX5_restore_68 (by decide) ?_
            refine z_ldM (w := (va_cpy sl σ (123 * lim) 0 123) 0) hx hb hK hM 1 rfl 0 (by decide) (by omega) (by decide) rfl dX5_restore_69 ?_
            exact z_iretE hx hb hr hlk hK hS (zIr_n (by first | assumption | (simp only [va_cpy, c_1, hc_lim, c_3, c_5, eq_self, ne_eq, not_true_eq_false, not_false_eq_true, and_true, true_and, and_self, and_false, false_and, true_or, or_true, false_or, or_false, reduceIte]; done) | (simp [va_cpy, c_1, hc_lim, c_3, c_5]; done) | grind) (zIr_n (by first | assumption | (simp only [va_cpy, c_1, hc_lim, c_3, c_5, eq_self, ne_eq, not_true_eq_false, not_false_eq_true, and_true, true_and, and_self, and_false, false_and, true_or, or_true, false_or, or_false, reduceIte]; done) | (simp [va_cpy, c_1, hc_lim, c_3, c_5]; done) | grind) (by first | rfl | (simp only [va_cpy, c_1, hc_lim, c_3, c_5, eq_self, ne_eq, not_true_eq_false, not_false_eq_true, and_true, true_and, and_self, and_false, false_and, true_or, or_true, false_or, or_false, reduceIte]; done) | (simp [va_cpy, c_1, hc_lim, c_3, c_5]; done)))) (zIf_n (by first | assumption | (simp only [va_cpy, c_1, hc_lim, c_3, c_5, eq_self, ne_eq, not_true_eq_false, not_false_eq_true, and_true, true_and, and_self, and_false, false_and, true_or, or_true, false_or, or_false, reduceIte]; done) | (simp [va_cpy, c_1, hc_lim, c_3, c_5]; done) | grind) (zIf_n (by first | assumption | (simp only [va_cpy, c_1, hc_lim, c_3, c_5, eq_self, ne_eq, not_true_eq_false, not_false_eq_true, and_true, true_and, and_self, and_false, false_and, true_or, or_true, false_or, or_false, reduceIte]; done) | (simp [va_cpy, c_1, hc_lim, c_3, c_5]; done) | grind) (by first | exact hM | (simpa only [va_cpy, c_1, hc_lim, c_3, c_5, eq_self, ne_eq, not_true_eq_false, not_false_eq_true, and_true, true_and, and_self, and_false, false_and, true_or, or_true, false_or, or_false, reduceIte] using hM) | (simpa [va_cpy, c_1, hc_lim, c_3, c_5] using hM)))) dX5_restore_70
          · skip
            have c_6 := (not_congr (z_leI (a := 123) (b := k) (by omega) (by omega))).mp c_6
            refine lv_aload_n hx hb dX5_restore_36 rfl (lv_at hl 1 rfl) ?_
            refine z_getM (v := .ref (ad 1)) hx hb hts hown in_X5_restore_X5 hK hM 1 (by decide) rfl (hts _ (List.mem_of_getElem? (i := 3) (by decide +kernel))) rfl dX5_restore_37 ?_
            refine lv_iload_n hx hb dX5_restore_40 rfl (lv_at hl 0 rfl) ?_
            refine lv_aload_n hx hb dX5_restore_41 rfl (lv_at hl 1 rfl) ?_
            refine z_getM (v := .ref (ad 4)) hx hb hts hown in_X5_restore_X5 hK hM 5 (by decide) rfl (hts _ (List.mem_of_getElem? (i := 4) (by decide +kernel))) rfl dX5_restore_42 ?_
            refine lv_bipush (v := 123) hx hb dX5_restore_45 (by decide) ?_
            refine lv_iload_n hx hb dX5_restore_47 rfl (lv_at hl 2 rfl) ?_
            refine lv_imul hx hb dX5_restore_48 ?_
            refine z_top (x2 := nI (123 * lim)) (pk_mul 123 lim) ?_
            refine lv_iload_n hx hb dX5_restore_49 rfl (lv_at hl 0 rfl) ?_
            refine lv_iadd hx hb dX5_restore_50 ?_
            refine z_top (x2 := nI ((123 * lim) + k)) (nI_add (123 * lim) k) ?_
            refine z_ldM (w := sl ((123 * lim) + k)) hx hb hK hM 4 rfl ((123 * lim) + k) rfl (by omega) (by decide) rfl dX5_restore_51 ?_
            refine z_stM (w := sl ((123 * lim) + k)) hx hb hK hA hS hM 1 rfl k rfl (by omega) (by decide) (zMQ G ad (0, cp, hf, nI d, sl, sv) (upd fk k (sl ((123 * lim) + k))) el wi) (fun _ h => h) dX5_restore_52 (fun H locs hM hS => ?_)
            refine lv_iinc (v := nI (k + 1)) (lv' := [(2, .int (nI (k + 1))), (0, .ref (ad 0)), (1, .int (nI lim))]) hx hb dX5_restore_53 hl (k := 0) rfl (nI_1 _) (by decide) rfl (fun ls hl => ?_)
            refine lv_goto (tgt := 30) hx hb dX5_restore_56 (by decide) ?_
            have e_k : (upd fk k (sl ((123 * lim) + k))) = va_cpy sl σ (123 * lim) 0 (k + 1) := by rw [← hF_fk]; exact zCp_s1 _ _ _ _
            refine ih1 (k + 1) _ _ _ (by omega) (by omega) (by rw [← e_k]; exact hM) hS (lv_sub hl [0, 1, 2] rfl)
      exact loop1 (123 + 1) 0 _ _ _ (by omega) (by omega) (by rw [zCp_0]; exact hM) hS (lv_sub hl [0, 1, 2] rfl)
    · skip
      refine lv_bipush (v := -2) hx hb dX5_restore_25 (by decide) ?_
      exact z_iretE hx hb hr hlk hK hS (zIr_n (by first | assumption | (simp only [va_cpy, c_1, hc_lim, c_4, eq_self, ne_eq, not_true_eq_false, not_false_eq_true, and_true, true_and, and_self, and_false, false_and, true_or, or_true, false_or, or_false, reduceIte]; done) | (simp [va_cpy, c_1, hc_lim, c_4]; done) | grind) (zIr_t (by first | assumption | (simp only [va_cpy, c_1, hc_lim, c_4, eq_self, ne_eq, not_true_eq_false, not_false_eq_true, and_true, true_and, and_self, and_false, false_and, true_or, or_true, false_or, or_false, reduceIte]; done) | (simp [va_cpy, c_1, hc_lim, c_4]; done) | grind) (by first | rfl | (simp only [va_cpy, c_1, hc_lim, c_4, eq_self, ne_eq, not_true_eq_false, not_false_eq_true, and_true, true_and, and_self, and_false, false_and, true_or, or_true, false_or, or_false, reduceIte]; done) | (simp [va_cpy, c_1, hc_lim, c_4]; done)))) (zIf_n (by first | assumption | (simp only [va_cpy, c_1, hc_lim, c_4, eq_self, ne_eq, not_true_eq_false, not_false_eq_true, and_true, true_and, and_self, and_false, false_and, true_or, or_true, false_or, or_false, reduceIte]; done) | (simp [va_cpy, c_1, hc_lim, c_4]; done) | grind) (zIf_t (by first | assumption | (simp only [va_cpy, c_1, hc_lim, c_4, eq_self, ne_eq, not_true_eq_false, not_false_eq_true, and_true, true_and, and_self, and_false, false_and, true_or, or_true, false_or, or_false, reduceIte]; done) | (simp [va_cpy, c_1, hc_lim, c_4]; done) | grind) (by first | exact hM | (simpa only [va_cpy, c_1, hc_lim, c_4, eq_self, ne_eq, not_true_eq_false, not_false_eq_true, and_true, true_and, and_self, and_false, false_and, true_or, or_true, false_or, or_false, reduceIte] using hM) | (simpa [va_cpy, c_1, hc_lim, c_4] using hM)))) dX5_restore_27
  · skip
    have c_2 := zBi_0.mp c_2
    refine lv_iconst (v := -1) hx hb dX5_restore_14 (by decide) ?_
    exact z_iretE hx hb hr hlk hK hS (zIr_t (by first | assumption | (simp only [va_cpy, c_2, eq_self, ne_eq, not_true_eq_false, not_false_eq_true, and_true, true_and, and_self, and_false, false_and, true_or, or_true, false_or, or_false, reduceIte]; done) | (simp [va_cpy, c_2]; done) | grind) (by first | rfl | (simp only [va_cpy, c_2, eq_self, ne_eq, not_true_eq_false, not_false_eq_true, and_true, true_and, and_self, and_false, false_and, true_or, or_true, false_or, or_false, reduceIte]; done) | (simp [va_cpy, c_2]; done))) (zIf_t (by first | assumption | (simp only [va_cpy, c_2, eq_self, ne_eq, not_true_eq_false, not_false_eq_true, and_true, true_and, and_self, and_false, false_and, true_or, or_true, false_or, or_false, reduceIte]; done) | (simp [va_cpy, c_2]; done) | grind) (by first | exact hM | (simpa only [va_cpy, c_2, eq_self, ne_eq, not_true_eq_false, not_false_eq_true, and_true, true_and, and_self, and_false, false_and, true_or, or_true, false_or, or_false, reduceIte] using hM) | (simpa [va_cpy, c_2] using hM))) dX5_restore_15
