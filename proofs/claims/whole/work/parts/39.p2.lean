/-! rows laid by my own program (wip/whole/gen) -/
set_option maxHeartbeats 4000000 in
set_option maxRecDepth 100000 in
/-- rounds until none is alive, at most lim -/
theorem c_X5_performMany (l : Launch) (G : zG) (A : Nat → Prop) (ad : Nat → Nat) (Y : zY) (n : Nat) (g : Nat → Int32) (hA : zAm G ad A) (hn12 : n ≤ 12) (hd3 : 0 < g 3) (hd5 : 0 < g 5) (τ : zT) (lim : Nat) (hlim : lim ≤ 300) : zMi l G A yX5_performMany wsX5_performMany 6 136 [.ref (ad 0), .int (nI lim)] (zMP G ad Y n g τ) (nI (zPm n g lim τ).1) (zMP G ad Y n g (zPm n g lim τ).2) := by
  refine z_met (cc := cX5_performMany) (maxL := 3) (ret := (some .int)) (by decide) rfl (Nat.le_of_ble_eq_true rfl) ?_
  intro p e s m below meth c ls S hr hlk hnm hM hK hl
  have S : CallFix p m c cX5_performMany 3 s _ wsX5_performMany RX5 := S
  obtain ⟨hx, hb, hml, hown, hts⟩ := id S
  have hS : va_S A s.heap s.heap [] := va_S.rf
  have hl : lv_has ls 3 [(0, .ref (ad 0)), (1, .int (nI lim))] := hl
  refine lv_iconst (v := 0) hx hb dX5_performMany_0 (by decide) ?_
  refine lv_istore_n (lv' := [(2, .int 0), (0, .ref (ad 0)), (1, .int (nI lim))]) hx hb dX5_performMany_1 rfl hl (by decide) rfl (fun ls hl => ?_)
  have loop : ∀ (f k : Nat) (H : Heap) (locs : List Loc) (ls : Array Slot), k ≤ lim → lim < k + f → (zIt (zPmS n g) k (0, τ)).1 = k → zMP G ad Y n g (zIt (zPmS n g) k (0, τ)).2 H → va_S A s.heap H locs → lv_has ls 3 [(2, .int (nI k)), (0, .ref (ad 0)), (1, .int (nI lim))] →
      W p l e ({ frames := 6, cells := 0, slots := 0, locals := 136 } : Room) s m ([.ref (ad 0), .int (nI lim)] : List Value).toArray below meth c H locs 0 0 (MQ below (zQi G (nI (zPm n g lim τ).1) (zMP G ad Y n g (zPm n g lim τ).2) A) ([.ref (ad 0), .int (nI lim)] : List Value).toArray s 0 0 A) (F0 m 2 ls []) := by
    intro f
    induction f with
    | zero => intro k H locs ls h1 h2; exact absurd h2 (by omega)
    | succ f ih =>
      intro k H locs ls hk hf h1 hM hS hl
      refine lv_iload_n hx hb dX5_performMany_2 rfl (lv_at hl 0 rfl) ?_
      refine lv_iload_n hx hb dX5_performMany_3 rfl (lv_at hl 2 rfl) ?_
      refine lv_icmp_ge (tgt := 24) hx hb dX5_performMany_4 (by decide) (fun c_1 => ?_) (fun c_1 => ?_)
      · have c_1 := (z_leI (a := lim) (b := k) (by omega) (by omega)).mp c_1
        have hkl : k = lim := by omega
        refine lv_iload_n hx hb dX5_performMany_24 rfl (lv_at hl 0 rfl) ?_
        refine z_top (x2 := nI (zPm n g lim τ).1) (by rw [← hkl]; exact congrArg nI h1.symm) ?_
        exact z_iret hx hb hr hlk hK hS (by rw [← hkl]; exact hM) dX5_performMany_25
      · have c_1 := (not_congr (z_leI (a := lim) (b := k) (by omega) (by omega))).mp c_1
        refine lv_aload_n hx hb dX5_performMany_7 rfl (lv_at hl 1 rfl) ?_
        refine z_vi (As := []) (rest := []) (P2 := zMP G ad Y n g (zIt (zPmS n g) k (0, τ)).2) (r := zLv n (zIt (zPmS n g) k (0, τ)).2) S (c_X5_alive l G A ad Y n g hA hn12 (zIt (zPmS n g) k (0, τ)).2) (cwV 0 hts gX5_performMany_X5_alive rfl rfl rfl (by decide +kernel) ⟨Nat.le_of_ble_eq_true rfl, Nat.le_of_ble_eq_true rfl⟩) (z_recM hK hM) hM hK hS (fun _ _ h => h) (fun _ h => h) hl.1 rfl rfl (Nat.le_of_ble_eq_true rfl) dX5_performMany_8 ⟨Nat.le_refl _, Nat.le_refl _⟩ (fun H locs hM hS _ => ?_)
        refine lv_if_le (tgt := 24) hx hb dX5_performMany_11 (by decide) (fun c_2 => ?_) (fun c_2 => ?_)
        · have c_2 := Int32.not_lt.mpr c_2
          have hst : zPm n g lim τ = zIt (zPmS n g) k (0, τ) := by
            have := zPm_stop c_2 (lim - k)
            rw [show k + (lim - k) = lim by omega] at this
            exact this
          refine lv_iload_n hx hb dX5_performMany_24 rfl (lv_at hl 0 rfl) ?_
          refine z_top (x2 := nI (zPm n g lim τ).1) (by rw [hst]; exact congrArg nI h1.symm) ?_
          exact z_iret hx hb hr hlk hK hS (by rw [hst]; exact hM) dX5_performMany_25
        · have c_2 := Int32.not_le.mp c_2
          have hs : zIt (zPmS n g) (k + 1) (0, τ) = ((zIt (zPmS n g) k (0, τ)).1 + 1, zMd n g (zIt (zPmS n g) k (0, τ)).2) := by
            rw [zIt_s]
            generalize zIt (zPmS n g) k (0, τ) = u at c_2 ⊢
            unfold zPmS
            rw [if_pos c_2]
          refine lv_aload_n hx hb dX5_performMany_14 rfl (lv_at hl 1 rfl) ?_
          refine z_vv (As := []) (rest := []) (P2 := zMP G ad Y n g (zMd n g (zIt (zPmS n g) k (0, τ)).2)) S (c_X5_perform l G A ad Y n g hA hn12 hd3 hd5 (zIt (zPmS n g) k (0, τ)).2) (cwV 0 hts gX5_performMany_X5_perform rfl rfl rfl (by decide +kernel) ⟨Nat.le_of_ble_eq_true rfl, Nat.le_of_ble_eq_true rfl⟩) (z_recM hK hM) hM hK hS (fun _ _ h => h) (fun _ h => h) hl.1 rfl rfl (Nat.le_of_ble_eq_true rfl) dX5_performMany_15 ⟨Nat.le_refl _, Nat.le_refl _⟩ (fun H locs hM hS _ => ?_)
          refine lv_iinc (v := nI (k + 1)) (lv' := [(2, .int (nI (k + 1))), (0, .ref (ad 0)), (1, .int (nI lim))]) hx hb dX5_performMany_18 hl (k := 0) rfl (nI_1 _) (by decide) rfl (fun ls hl => ?_)
          refine lv_goto (tgt := 2) hx hb dX5_performMany_21 (by decide) ?_
          refine ih (k + 1) _ _ _ (by omega) (by omega) ?_ ?_ hS hl
          · rw [hs, h1]
          · rw [hs]; exact hM
  exact loop (lim + 1) 0 _ _ _ (by omega) (by omega) rfl hM hS (lv_sub hl [0, 1, 2] rfl)

theorem in_X5_charge_X5 : ∀ w ∈ wsX50, w ∈ wsX5_charge := by decide +kernel
set_option maxHeartbeats 4000000 in
set_option maxRecDepth 100000 in
theorem p_X5_charge (l : Launch) (G : zG) (A : Nat → Prop) (ad : Nat → Nat) (hA : zAm G ad A) (th : Int32) (cp hf : Nat → Int32) (d : Nat) (hd : d ≤ 6) (sl sv : Nat → Int32) (n : Nat) (hn12 : n ≤ 12) (g : Nat → Int32) (τ : zT) (x u : Int32) : zMi l G A yX5_charge wsX5_charge 2 43 [.ref (ad 0), .int x, .int u] (zMP G ad (th, cp, hf, nI d, sl, sv) n g τ) (if ¬ ((¬ x < 0 ∧ x < nI n) ∧ (¬ u < 1 ∧ ¬ 100000 < u)) then -1 else (if ¬ (τ 3 x.toNatClampNeg = 1 ∧ ¬ 1000000 < τ 2 x.toNatClampNeg + u) then -2 else τ 2 x.toNatClampNeg + u)) (if ¬ ((¬ x < 0 ∧ x < nI n) ∧ (¬ u < 1 ∧ ¬ 100000 < u)) then (zMP G ad (0, cp, hf, nI d, sl, sv) n g τ) else (if ¬ (τ 3 x.toNatClampNeg = 1 ∧ ¬ 1000000 < τ 2 x.toNatClampNeg + u) then (zMP G ad (0, cp, hf, nI d, sl, sv) n g τ) else (zMP G ad (0, cp, (zKf d (zMA n g τ) hf), nI (zKd d + 1), sl, sv) n g (zSt τ 2 x.toNatClampNeg (τ 2 x.toNatClampNeg + u))))) := by
  refine z_met (cc := cX5_charge) (maxL := 3) (ret := (some .int)) (by decide) rfl (Nat.le_of_ble_eq_true rfl) ?_
  intro p e s m below meth c ls S hr hlk hnm hM hK hl
  have S : CallFix p m c cX5_charge 3 s _ wsX5_charge RX5 := S
  obtain ⟨hx, hb, hml, hown, hts⟩ := id S
  have hS : va_S A s.heap s.heap [] := va_S.rf
  have hl : lv_has ls 3 [(0, .ref (ad 0)), (1, .int x), (2, .int u)] := hl
  refine lv_aload_n hx hb dX5_charge_0 rfl (lv_at hl 0 rfl) ?_
  refine lv_iconst (v := 0) hx hb dX5_charge_1 (by decide) ?_
  refine z_putM (w := 0) hx hb hts hown in_X5_charge_X5 hK hA hS hM 0 (by decide) rfl (hts _ (List.mem_of_getElem? (i := 1) (by decide +kernel))) (by decide +kernel) rfl (0, cp, hf, nI d, sl, sv) rfl ⟨rfl, rfl, rfl⟩ dX5_charge_2 (fun H locs hM hS => ?_)
  have hM : zMP G ad (0, cp, hf, nI d, sl, sv) n g τ H := hM
  refine lv_aload_n hx hb dX5_charge_5 rfl (lv_at hl 0 rfl) ?_
  refine lv_iload_n hx hb dX5_charge_6 rfl (lv_at hl 1 rfl) ?_
  refine z_vi (As := [.int x]) (rest := []) (P2 := zMP G ad (0, cp, hf, nI d, sl, sv) n g τ) (r := zBi (¬ x < 0 ∧ x < nI n)) S (c_X5_isSensor l G A ad (0, cp, hf, nI d, sl, sv) n g hA hn12  τ x) (cwV 1 hts gX5_charge_X5_isSensor rfl rfl rfl (by decide +kernel) ⟨Nat.le_of_ble_eq_true rfl, Nat.le_of_ble_eq_true rfl⟩) (z_recM hK hM) hM hK hS (fun _ _ h => h) (fun _ h => h) hl.1 rfl rfl (Nat.le_of_ble_eq_true rfl) dX5_charge_7 ⟨Nat.le_refl _, Nat.le_refl _⟩ (fun H locs hM hS _ => ?_)
  refine lv_if_eq (tgt := 23) hx hb dX5_charge_10 (by decide) (fun c_1 => ?_) (fun c_2 => ?_)
  · skip
    have c_1 := zBi_0.mp c_1
    refine lv_iconst (v := -1) hx hb dX5_charge_23 (by decide) ?_
    exact z_iretE hx hb hr hlk hK hS (zIr_t (by first | assumption | (simp only [c_1, eq_self, ne_eq, not_true_eq_false, not_false_eq_true, and_true, true_and, and_self, and_false, false_and, true_or, or_true, false_or, or_false, reduceIte]; done) | (simp [c_1]; done) | grind) (by first | rfl | (simp only [c_1, eq_self, ne_eq, not_true_eq_false, not_false_eq_true, and_true, true_and, and_self, and_false, false_and, true_or, or_true, false_or, or_false, reduceIte]; done) | (simp [c_1]; done))) (zIf_t (by first | assumption | (simp only [c_1, eq_self, ne_eq, not_true_eq_false, not_false_eq_true, and_true, true_and, and_self, and_false, false_and, true_or, or_true, false_or, or_false, reduceIte]; done) | (simp [c_1]; done) | grind) (by first | exact hM | (simpa only [c_1, eq_self, ne_eq, not_true_eq_false, not_false_eq_true, and_true, true_and, and_self, and_false, false_and, true_or, or_true, false_or, or_false, reduceIte] using hM) | (simpa [c_1] using hM))) dX5_charge_24
  · skip
    have c_2 := zBi_n0.mp c_2
    obtain ⟨k, hk, rfl⟩ := zIn_of (by omega) c_2
    have hc_k : (nI k).toNatClampNeg = k := nI_clamp (by omega)
    refine lv_iload_n hx hb dX5_charge_13 rfl (lv_at hl 2 rfl) ?_
    refine lv_iconst (v := 1) hx hb dX5_charge_14 (by decide) ?_
    refine lv_ldc (v := 100000) hx hb hown (hts _ (List.mem_of_getElem? (i := 2) (by decide +kernel))) dX5_charge_15 ?_
    refine z_si (As := [.int u, .int 1, .int 100000]) (rest := []) (P2 := zMP G ad (0, cp, hf, nI d, sl, sv) n g τ) (r := zBi (¬ u < 1 ∧ ¬ 100000 < u)) S (c_X5_in l G A (zMP G ad (0, cp, hf, nI d, sl, sv) n g τ) u 1 100000) (cwS 3 hts gX5_charge_X5_in rfl rfl rfl (by decide +kernel) ⟨Nat.le_of_ble_eq_true rfl, Nat.le_of_ble_eq_true rfl⟩) hM hK hS (fun _ _ h => h) (fun _ h => h) hl.1 rfl rfl (Nat.le_of_ble_eq_true rfl) dX5_charge_17 ⟨Nat.le_refl _, Nat.le_refl _⟩ (fun H locs hM hS _ => ?_)
    refine lv_if_ne (tgt := 25) hx hb dX5_charge_20 (by decide) (fun c_3 => ?_) (fun c_4 => ?_)
    · skip
      have c_3 := zBi_n0.mp c_3
      refine lv_aload_n hx hb dX5_charge_25 rfl (lv_at hl 0 rfl) ?_
      refine lv_iload_n hx hb dX5_charge_26 rfl (lv_at hl 1 rfl) ?_
      refine z_vi (As := [.int (nI k)]) (rest := []) (P2 := zMP G ad (0, cp, hf, nI d, sl, sv) n g τ) (r := zBi (τ 3 k = 1)) S (c_X5_lives l G A ad (0, cp, hf, nI d, sl, sv) n g hA hn12  τ k (by omega)) (cwV 1 hts gX5_charge_X5_lives rfl rfl rfl (by decide +kernel) ⟨Nat.le_of_ble_eq_true rfl, Nat.le_of_ble_eq_true rfl⟩) (z_recM hK hM) hM hK hS (fun _ _ h => h) (fun _ h => h) hl.1 rfl rfl (Nat.le_of_ble_eq_true rfl) dX5_charge_27 ⟨Nat.le_refl _, Nat.le_refl _⟩ (fun H locs hM hS _ => ?_)
      refine lv_if_eq (tgt := 46) hx hb dX5_charge_30 (by decide) (fun c_5 => ?_) (fun c_6 => ?_)
      · skip
        have c_5 := zBi_0.mp c_5
        refine lv_bipush (v := -2) hx hb dX5_charge_46 (by decide) ?_
        exact z_iretE hx hb hr hlk hK hS (zIr_n (by first | assumption | (simp only [c_2, hc_k, c_3, c_5, eq_self, ne_eq, not_true_eq_false, not_false_eq_true, and_true, true_and, and_self, and_false, false_and, true_or, or_true, false_or, or_false, reduceIte]; done) | (simp [c_2, hc_k, c_3, c_5]; done) | grind) (zIr_t (by first | assumption | (simp only [c_2, hc_k, c_3, c_5, eq_self, ne_eq, not_true_eq_false, not_false_eq_true, and_true, true_and, and_self, and_false, false_and, true_or, or_true, false_or, or_false, reduceIte]; done) | (simp [c_2, hc_k, c_3, c_5]; done) | grind) (by first | rfl | (simp only [c_2, hc_k, c_3, c_5, eq_self, ne_eq, not_true_eq_false, not_false_eq_true, and_true, true_and, and_self, and_false, false_and, true_or, or_true, false_or, or_false, reduceIte]; done) | (simp [c_2, hc_k, c_3, c_5]; done)))) (zIf_n (by first | assumption | (simp only [c_2, hc_k, c_3, c_5, eq_self, ne_eq, not_true_eq_false, not_false_eq_true, and_true, true_and, and_self, and_false, false_and, true_or, or_true, false_or, or_false, reduceIte]; done) | (simp [c_2, hc_k, c_3, c_5]; done) | grind) (zIf_t (by first | assumption | (simp only [c_2, hc_k, c_3, c_5, eq_self, ne_eq, not_true_eq_false, not_false_eq_true, and_true, true_and, and_self, and_false, false_and, true_or, or_true, false_or, or_false, reduceIte]; done) | (simp [c_2, hc_k, c_3, c_5]; done) | grind) (by first | exact hM | (simpa only [c_2, hc_k, c_3, c_5, eq_self, ne_eq, not_true_eq_false, not_false_eq_true, and_true, true_and, and_self, and_false, false_and, true_or, or_true, false_or, or_false, reduceIte] using hM) | (simpa [c_2, hc_k, c_3, c_5] using hM)))) dX5_charge_48
      · skip
        have c_6 := zBi_n0.mp c_6
        refine lv_aload_n hx hb dX5_charge_33 rfl (lv_at hl 0 rfl) ?_
        refine lv_iload_n hx hb dX5_charge_34 rfl (lv_at hl 1 rfl) ?_
        refine lv_iconst (v := 2) hx hb dX5_charge_35 (by decide) ?_
        refine z_vi (As := [.int (nI k), .int 2]) (rest := []) (P2 := zMP G ad (0, cp, hf, nI d, sl, sv) n g τ) (r := τ 2 k) S (c_X5_of l G A ad (0, cp, hf, nI d, sl, sv) n g hA hn12  τ k 2 (by omega) (by omega)) (cwV 2 hts gX5_charge_X5_of rfl rfl rfl (by decide +kernel) ⟨Nat.le_of_ble_eq_true rfl, Nat.le_of_ble_eq_true rfl⟩) (z_recM hK hM) hM hK hS (fun _ _ h => h) (fun _ h => h) hl.1 rfl rfl (Nat.le_of_ble_eq_true rfl) dX5_charge_36 ⟨Nat.le_refl _, Nat.le_refl _⟩ (fun H locs hM hS _ => ?_)
        refine lv_iload_n hx hb dX5_charge_39 rfl (lv_at hl 2 rfl) ?_
        refine lv_iadd hx hb dX5_charge_40 ?_
        refine lv_ldc (v := 1000000) hx hb hown (hts _ (List.mem_of_getElem? (i := 3) (by decide +kernel))) dX5_charge_41 ?_
        refine lv_icmp_le (tgt := 49) hx hb dX5_charge_43 (by decide) (fun c_7 => ?_) (fun c_8 => ?_)
        · skip
          have c_7 := Int32.not_lt.mpr c_7
          refine lv_aload_n hx hb dX5_charge_49 rfl (lv_at hl 0 rfl) ?_
          refine z_vv (As := []) (rest := []) (P2 := zMP G ad (0, cp, (zKf d (zMA n g τ) hf), nI (zKd d + 1), sl, sv) n g τ) S (r_X5_keep l G A ad hA 0 cp hf d hd sl sv (zMA n g τ) (zEr τ) (τ 9)) (cwV 0 hts gX5_charge_X5_keep rfl rfl rfl (by decide +kernel) ⟨Nat.le_of_ble_eq_true rfl, Nat.le_of_ble_eq_true rfl⟩) (z_recM hK hM) hM hK hS (fun _ _ h => h) (fun _ h => h) hl.1 rfl rfl (Nat.le_of_ble_eq_true rfl) dX5_charge_50 ⟨Nat.le_refl _, Nat.le_refl _⟩ (fun H locs hM hS _ => ?_)
          refine lv_aload_n hx hb dX5_charge_53 rfl (lv_at hl 0 rfl) ?_
          refine lv_iload_n hx hb dX5_charge_54 rfl (lv_at hl 1 rfl) ?_
          refine lv_iconst (v := 2) hx hb dX5_charge_55 (by decide) ?_
          refine lv_aload_n hx hb dX5_charge_56 rfl (lv_at hl 0 rfl) ?_
          refine lv_iload_n hx hb dX5_charge_57 rfl (lv_at hl 1 rfl) ?_
          refine lv_iconst (v := 2) hx hb dX5_charge_58 (by decide) ?_
          refine z_vi (As := [.int (nI k), .int 2]) (rest := [.int 2, .int (nI k), .ref (ad 0)]) (P2 := zMP G ad (0, cp, (zKf d (zMA n g τ) hf), nI (zKd d + 1), sl, sv) n g τ) (r := τ 2 k) S (c_X5_of l G A ad (0, cp, (zKf d (zMA n g τ) hf), nI (zKd d + 1), sl, sv) n g hA hn12  τ k 2 (by omega) (by omega)) (cwV 2 hts gX5_charge_X5_of rfl rfl rfl (by decide +kernel) ⟨Nat.le_of_ble_eq_true rfl, Nat.le_of_ble_eq_true rfl⟩) (z_recM hK hM) hM hK hS (fun _ _ h => h) (fun _ h => h) hl.1 rfl rfl (Nat.le_of_ble_eq_true rfl) dX5_charge_59 ⟨Nat.le_refl _, Nat.le_refl _⟩ (fun H locs hM hS _ => ?_)
          refine lv_iload_n hx hb dX5_charge_62 rfl (lv_at hl 2 rfl) ?_
          refine lv_iadd hx hb dX5_charge_63 ?_
          refine z_vv (As := [.int (nI k), .int 2, .int ((τ 2 k) + u)]) (rest := []) (P2 := zMP G ad (0, cp, (zKf d (zMA n g τ) hf), nI (zKd d + 1), sl, sv) n g (zSt τ 2 k ((τ 2 k) + u))) S (c_X5_set l G A ad (0, cp, (zKf d (zMA n g τ) hf), nI (zKd d + 1), sl, sv) n g hA hn12  τ k 2 (by omega) (by omega) ((τ 2 k) + u)) (cwV 3 hts gX5_charge_X5_set rfl rfl rfl (by decide +kernel) ⟨Nat.le_of_ble_eq_true rfl, Nat.le_of_ble_eq_true rfl⟩) (z_recM hK hM) hM hK hS (fun _ _ h => h) (fun _ h => h) hl.1 rfl rfl (Nat.le_of_ble_eq_true rfl) dX5_charge_64 ⟨Nat.le_refl _, Nat.le_refl _⟩ (fun H locs hM hS _ => ?_)
          refine lv_aload_n hx hb dX5_charge_67 rfl (lv_at hl 0 rfl) ?_
          refine lv_iload_n hx hb dX5_charge_68 rfl (lv_at hl 1 rfl) ?_
          refine lv_iconst (v := 2) hx hb dX5_charge_69 (by decide) ?_
          refine z_vi (As := [.int (nI k), .int 2]) (rest := []) (P2 := zMP G ad (0, cp, (zKf d (zMA n g τ) hf), nI (zKd d + 1), sl, sv) n g (zSt τ 2 k ((τ 2 k) + u))) (r := (zSt τ 2 k ((τ 2 k) + u)) 2 k) S (c_X5_of l G A ad (0, cp, (zKf d (zMA n g τ) hf), nI (zKd d + 1), sl, sv) n g hA hn12  (zSt τ 2 k ((τ 2 k) + u)) k 2 (by omega) (by omega)) (cwV 2 hts gX5_charge_X5_of rfl rfl rfl (by decide +kernel) ⟨Nat.le_of_ble_eq_true rfl, Nat.le_of_ble_eq_true rfl⟩) (z_recM hK hM) hM hK hS (fun _ _ h => h) (fun _ h => h) hl.1 rfl rfl (Nat.le_of_ble_eq_true rfl) dX5_charge_70 ⟨Nat.le_refl _, Nat.le_refl _⟩ (fun H locs hM hS _ => ?_)
          refine z_top (x2 := (τ 2 k) + u) (zSt_self τ 2 k ((τ 2 k) + u)) ?_
          exact z_iretE hx hb hr hlk hK hS (zIr_n (by first | assumption | (simp only [c_2, hc_k, c_3, c_6, c_7, eq_self, ne_eq, not_true_eq_false, not_false_eq_true, and_true, true_and, and_self, and_false, false_and, true_or, or_true, false_or, or_false, reduceIte]; done) | (simp [c_2, hc_k, c_3, c_6, c_7]; done) | grind) (zIr_n (by first | assumption | (simp only [c_2, hc_k, c_3, c_6, c_7, eq_self, ne_eq, not_true_eq_false, not_false_eq_true, and_true, true_and, and_self, and_false, false_and, true_or, or_true, false_or, or_false, reduceIte]; done) | (simp [c_2, hc_k, c_3, c_6, c_7]; done) | grind) (by first | rfl | (simp only [c_2, hc_k, c_3, c_6, c_7, eq_self, ne_eq, not_true_eq_false, not_false_eq_true, and_true, true_and, and_self, and_false, false_and, true_or, or_true, false_or, or_false, reduceIte]; done) | (simp [c_2, hc_k, c_3, c_6, c_7]; done)))) (zIf_n (by first | assumption | (simp only [c_2, hc_k, c_3, c_6, c_7, eq_self, ne_eq, not_true_eq_false, not_false_eq_true, and_true, true_and, and_self, and_false, false_and, true_or, or_true, false_or, or_false, reduceIte]; done) | (simp [c_2, hc_k, c_3, c_6, c_7]; done) | grind) (zIf_n (by first | assumption | (simp only [c_2, hc_k, c_3, c_6, c_7, eq_self, ne_eq, not_true_eq_false, not_false_eq_true, and_true, true_and, and_self, and_false, false_and, true_or, or_true, false_or, or_false, reduceIte]; done) | (simp [c_2, hc_k, c_3, c_6, c_7]; done) | grind) (by first | exact hM | (simpa only [c_2, hc_k, c_3, c_6, c_7, eq_self, ne_eq, not_true_eq_false, not_false_eq_true, and_true, true_and, and_self, and_false, false_and, true_or, or_true, false_or, or_false, reduceIte] using hM) | (simpa [c_2, hc_k, c_3, c_6, c_7] using hM)))) dX5_charge_73
        · skip
          have c_8 := Int32.not_le.mp c_8
          refine lv_bipush (v := -2) hx hb dX5_charge_46 (by decide) ?_
          exact z_iretE hx hb hr hlk hK hS (zIr_n (by first | assumption | (simp only [c_2, hc_k, c_3, c_6, c_8, eq_self, ne_eq, not_true_eq_false, not_false_eq_true, and_true, true_and, and_self, and_false, false_and, true_or, or_true, false_or, or_false, reduceIte]; done) | (simp [c_2, hc_k, c_3, c_6, c_8]; done) | grind) (zIr_t (by first | assumption | (simp only [c_2, hc_k, c_3, c_6, c_8, eq_self, ne_eq, not_true_eq_false, not_false_eq_true, and_true, true_and, and_self, and_false, false_and, true_or, or_true, false_or, or_false, reduceIte]; done) | (simp [c_2, hc_k, c_3, c_6, c_8]; done) | grind) (by first | rfl | (simp only [c_2, hc_k, c_3, c_6, c_8, eq_self, ne_eq, not_true_eq_false, not_false_eq_true, and_true, true_and, and_self, and_false, false_and, true_or, or_true, false_or, or_false, reduceIte]; done) | (simp [c_2, hc_k, c_3, c_6, c_8]; done)))) (zIf_n (by first | assumption | (simp only [c_2, hc_k, c_3, c_6, c_8, eq_self, ne_eq, not_true_eq_false, not_false_eq_true, and_true, true_and, and_self, and_false, false_and, true_or, or_true, false_or, or_false, reduceIte]; done) | (simp [c_2, hc_k, c_3, c_6, c_8]; done) | grind) (zIf_t (by first | assumption | (simp only [c_2, hc_k, c_3, c_6, c_8, eq_self, ne_eq, not_true_eq_false, not_false_eq_true, and_true, true_and, and_self, and_false, false_and, true_or, or_true, false_or, or_false, reduceIte]; done) | (simp [c_2, hc_k, c_3, c_6, c_8]; done) | grind) (by first | exact hM | (simpa only [c_2, hc_k, c_3, c_6, c_8, eq_self, ne_eq, not_true_eq_false, not_false_eq_true, and_true, true_and, and_self, and_false, false_and, true_or, or_true, false_or, or_false, reduceIte] using hM) | (simpa [c_2, hc_k, c_3, c_6, c_8] using hM)))) dX5_charge_48
    · skip
      have c_4 := zBi_0.mp c_4
      refine lv_iconst (v := -1) hx hb dX5_charge_23 (by decide) ?_
      exact z_iretE hx hb hr hlk hK hS (zIr_t (by first | assumption | (simp only [c_2, hc_k, c_4, eq_self, ne_eq, not_true_eq_false, not_false_eq_true, and_true, true_and, and_self, and_false, false_and, true_or, or_true, false_or, or_false, reduceIte]; done) | (simp [c_2, hc_k, c_4]; done) | grind) (by first | rfl | (simp only [c_2, hc_k, c_4, eq_self, ne_eq, not_true_eq_false, not_false_eq_true, and_true, true_and, and_self, and_false, false_and, true_or, or_true, false_or, or_false, reduceIte]; done) | (simp [c_2, hc_k, c_4]; done))) (zIf_t (by first | assumption | (simp only [c_2, hc_k, c_4, eq_self, ne_eq, not_true_eq_false, not_false_eq_true, and_true, true_and, and_self, and_false, false_and, true_or, or_true, false_or, or_false, reduceIte]; done) | (simp [c_2, hc_k, c_4]; done) | grind) (by first | exact hM | (simpa only [c_2, hc_k, c_4, eq_self, ne_eq, not_true_eq_false, not_false_eq_true, and_true, true_and, and_self, and_false, false_and, true_or, or_true, false_or, or_false, reduceIte] using hM) | (simpa [c_2, hc_k, c_4] using hM))) dX5_charge_24

theorem in_X5_run_X5 : ∀ w ∈ wsX50, w ∈ wsX5_run := by decide +kernel
set_option maxHeartbeats 4000000 in
set_option maxRecDepth 100000 in
theorem p_X5_run (l : Launch) (G : zG) (A : Nat → Prop) (ad : Nat → Nat) (hA : zAm G ad A) (th : Int32) (cp hf : Nat → Int32) (d : Nat) (hd : d ≤ 6) (sl sv : Nat → Int32) (n : Nat) (hn12 : n ≤ 12) (g : Nat → Int32) (hd3 : 0 < g 3) (hd5 : 0 < g 5) (τ : zT) (x : Int32) : zMi l G A yX5_run wsX5_run 7 158 [.ref (ad 0), .int x] (zMP G ad (th, cp, hf, nI d, sl, sv) n g τ) (if ¬ (¬ x < 1 ∧ ¬ 50 < x) then -1 else (if zLv n τ = 0 then -2 else nI (zPm n g x.toNatClampNeg τ).1)) (if ¬ (¬ x < 1 ∧ ¬ 50 < x) then (zMP G ad (0, cp, hf, nI d, sl, sv) n g τ) else (if zLv n τ = 0 then (zMP G ad (0, cp, hf, nI d, sl, sv) n g τ) else (zMP G ad (0, cp, (zKf d (zMA n g τ) hf), nI (zKd d + 1), sl, sv) n g ((zPm n g x.toNatClampNeg τ).2)))) := by
  refine z_met (cc := cX5_run) (maxL := 2) (ret := (some .int)) (by decide) rfl (Nat.le_of_ble_eq_true rfl) ?_
  intro p e s m below meth c ls S hr hlk hnm hM hK hl
  have S : CallFix p m c cX5_run 2 s _ wsX5_run RX5 := S
  obtain ⟨hx, hb, hml, hown, hts⟩ := id S
  have hS : va_S A s.heap s.heap [] := va_S.rf
  have hl : lv_has ls 2 [(0, .ref (ad 0)), (1, .int x)] := hl
  refine lv_aload_n hx hb dX5_run_0 rfl (lv_at hl 0 rfl) ?_
  refine lv_iconst (v := 0) hx hb dX5_run_1 (by decide) ?_
  refine z_putM (w := 0) hx hb hts hown in_X5_run_X5 hK hA hS hM 0 (by decide) rfl (hts _ (List.mem_of_getElem? (i := 1) (by decide +kernel))) (by decide +kernel) rfl (0, cp, hf, nI d, sl, sv) rfl ⟨rfl, rfl, rfl⟩ dX5_run_2 (fun H locs hM hS => ?_)
  have hM : zMP G ad (0, cp, hf, nI d, sl, sv) n g τ H := hM
  refine lv_iload_n hx hb dX5_run_5 rfl (lv_at hl 1 rfl) ?_
  refine lv_iconst (v := 1) hx hb dX5_run_6 (by decide) ?_
  refine lv_bipush (v := 50) hx hb dX5_run_7 (by decide) ?_
  refine z_si (As := [.int x, .int 1, .int 50]) (rest := []) (P2 := zMP G ad (0, cp, hf, nI d, sl, sv) n g τ) (r := zBi (¬ x < 1 ∧ ¬ 50 < x)) S (c_X5_in l G A (zMP G ad (0, cp, hf, nI d, sl, sv) n g τ) x 1 50) (cwS 3 hts gX5_run_X5_in rfl rfl rfl (by decide +kernel) ⟨Nat.le_of_ble_eq_true rfl, Nat.le_of_ble_eq_true rfl⟩) hM hK hS (fun _ _ h => h) (fun _ h => h) hl.1 rfl rfl (Nat.le_of_ble_eq_true rfl) dX5_run_9 ⟨Nat.le_refl _, Nat.le_refl _⟩ (fun H locs hM hS _ => ?_)
  refine lv_if_ne (tgt := 17) hx hb dX5_run_12 (by decide) (fun c_1 => ?_) (fun c_2 => ?_)
  · skip
    have c_1 := zBi_n0.mp c_1
    obtain ⟨lim, hlim1, hlim2, rfl⟩ := zLe_of (a := 1) (b := 50) (by omega) (by omega) c_1
    have hc_lim : (nI lim).toNatClampNeg = lim := nI_clamp (by omega)
    refine lv_aload_n hx hb dX5_run_17 rfl (lv_at hl 0 rfl) ?_
    refine z_vi (As := []) (rest := []) (P2 := zMP G ad (0, cp, hf, nI d, sl, sv) n g τ) (r := zLv n τ) S (c_X5_alive l G A ad (0, cp, hf, nI d, sl, sv) n g hA hn12  τ ) (cwV 0 hts gX5_run_X5_alive rfl rfl rfl (by decide +kernel) ⟨Nat.le_of_ble_eq_true rfl, Nat.le_of_ble_eq_true rfl⟩) (z_recM hK hM) hM hK hS (fun _ _ h => h) (fun _ h => h) hl.1 rfl rfl (Nat.le_of_ble_eq_true rfl) dX5_run_18 ⟨Nat.le_refl _, Nat.le_refl _⟩ (fun H locs hM hS _ => ?_)
    refine lv_if_ne (tgt := 27) hx hb dX5_run_21 (by decide) (fun c_3 => ?_) (fun c_4 => ?_)
    · skip
      refine lv_aload_n hx hb dX5_run_27 rfl (lv_at hl 0 rfl) ?_
      refine z_vv (As := []) (rest := []) (P2 := zMP G ad (0, cp, (zKf d (zMA n g τ) hf), nI (zKd d + 1), sl, sv) n g τ) S (r_X5_keep l G A ad hA 0 cp hf d hd sl sv (zMA n g τ) (zEr τ) (τ 9)) (cwV 0 hts gX5_run_X5_keep rfl rfl rfl (by decide +kernel) ⟨Nat.le_of_ble_eq_true rfl, Nat.le_of_ble_eq_true rfl⟩) (z_recM hK hM) hM hK hS (fun _ _ h => h) (fun _ h => h) hl.1 rfl rfl (Nat.le_of_ble_eq_true rfl) dX5_run_28 ⟨Nat.le_refl _, Nat.le_refl _⟩ (fun H locs hM hS _ => ?_)
      refine lv_aload_n hx hb dX5_run_31 rfl (lv_at hl 0 rfl) ?_
      refine lv_iload_n hx hb dX5_run_32 rfl (lv_at hl 1 rfl) ?_
      refine z_vi (As := [.int (nI lim)]) (rest := []) (P2 := zMP G ad (0, cp, (zKf d (zMA n g τ) hf), nI (zKd d + 1), sl, sv) n g ((zPm n g lim τ).2)) (r := nI (zPm n g lim τ).1) S (c_X5_performMany l G A ad (0, cp, (zKf d (zMA n g τ) hf), nI (zKd d + 1), sl, sv) n g hA hn12 hd3 hd5 τ lim (by omega)) (cwV 1 hts gX5_run_X5_performMany rfl rfl rfl (by decide +kernel) ⟨Nat.le_of_ble_eq_true rfl, Nat.le_of_ble_eq_true rfl⟩) (z_recM hK hM) hM hK hS (fun _ _ h => h) (fun _ h => h) hl.1 rfl rfl (Nat.le_of_ble_eq_true rfl) dX5_run_33 ⟨Nat.le_refl _, Nat.le_refl _⟩ (fun H locs hM hS _ => ?_)
      exact z_iretE hx hb hr hlk hK hS (zIr_n (by first | assumption | (simp only [c_1, hc_lim, c_3, eq_self, ne_eq, not_true_eq_false, not_false_eq_true, and_true, true_and, and_self, and_false, false_and, true_or, or_true, false_or, or_false, reduceIte]; done) | (simp [c_1, hc_lim, c_3]; done) | grind) (zIr_n (by first | assumption | (simp only [c_1, hc_lim, c_3, eq_self, ne_eq, not_true_eq_false, not_false_eq_true, and_true, true_and, and_self, and_false, false_and, true_or, or_true, false_or, or_false, reduceIte]; done) | (simp [c_1, hc_lim, c_3]; done) | grind) (by first | rfl | (simp only [c_1, hc_lim, c_3, eq_self, ne_eq, not_true_eq_false, not_false_eq_true, and_true, true_and, and_self, and_false, false_and, true_or, or_true, false_or, or_false, reduceIte]; done) | (simp [c_1, hc_lim, c_3]; done)))) (zIf_n (by first | assumption | (simp only [c_1, hc_lim, c_3, eq_self, ne_eq, not_true_eq_false, not_false_eq_true, and_true, true_and, and_self, and_false, false_and, true_or, or_true, false_or, or_false, reduceIte]; done) | (simp [c_1, hc_lim, c_3]; done) | grind) (zIf_n (by first | assumption | (simp only [c_1, hc_lim, c_3, eq_self, ne_eq, not_true_eq_false, not_false_eq_true, and_true, true_and, and_self, and_false, false_and, true_or, or_true, false_or, or_false, reduceIte]; done) | (simp [c_1, hc_lim, c_3]; done) | grind) (by first | exact hM | (simpa only [c_1, hc_lim, c_3, eq_self, ne_eq, not_true_eq_false, not_false_eq_true, and_true, true_and, and_self, and_false, false_and, true_or, or_true, false_or, or_false, reduceIte] using hM) | (simpa [c_1, hc_lim, c_3] using hM)))) dX5_run_36
    · skip
      refine lv_bipush (v := -2) hx hb dX5_run_24 (by decide) ?_
      exact z_iretE hx hb hr hlk hK hS (zIr_n (by first | assumption | (simp only [c_1, hc_lim, c_4, eq_self, ne_eq, not_true_eq_false, not_false_eq_true, and_true, true_and, and_self, and_false, false_and, true_or, or_true, false_or, or_false, reduceIte]; done) | (simp [c_1, hc_lim, c_4]; done) | grind) (zIr_t (by first | assumption | (simp only [c_1, hc_lim, c_4, eq_self, ne_eq, not_true_eq_false, not_false_eq_true, and_true, true_and, and_self, and_false, false_and, true_or, or_true, false_or, or_false, reduceIte]; done) | (simp [c_1, hc_lim, c_4]; done) | grind) (by first | rfl | (simp only [c_1, hc_lim, c_4, eq_self, ne_eq, not_true_eq_false, not_false_eq_true, and_true, true_and, and_self, and_false, false_and, true_or, or_true, false_or, or_false, reduceIte]; done) | (simp [c_1, hc_lim, c_4]; done)))) (zIf_n (by first | assumption | (simp only [c_1, hc_lim, c_4, eq_self, ne_eq, not_true_eq_false, not_false_eq_true, and_true, true_and, and_self, and_false, false_and, true_or, or_true, false_or, or_false, reduceIte]; done) | (simp [c_1, hc_lim, c_4]; done) | grind) (zIf_t (by first | assumption | (simp only [c_1, hc_lim, c_4, eq_self, ne_eq, not_true_eq_false, not_false_eq_true, and_true, true_and, and_self, and_false, false_and, true_or, or_true, false_or, or_false, reduceIte]; done) | (simp [c_1, hc_lim, c_4]; done) | grind) (by first | exact hM | (simpa only [c_1, hc_lim, c_4, eq_self, ne_eq, not_true_eq_false, not_false_eq_true, and_true, true_and, and_self, and_false, false_and, true_or, or_true, false_or, or_false, reduceIte] using hM) | (simpa [c_1, hc_lim, c_4] using hM)))) dX5_run_26
  · skip
    have c_2 := zBi_0.mp c_2
    refine lv_iconst (v := -1) hx hb dX5_run_15 (by decide) ?_
    exact z_iretE hx hb hr hlk hK hS (zIr_t (by first | assumption | (simp only [c_2, eq_self, ne_eq, not_true_eq_false, not_false_eq_true, and_true, true_and, and_self, and_false, false_and, true_or, or_true, false_or, or_false, reduceIte]; done) | (simp [c_2]; done) | grind) (by first | rfl | (simp only [c_2, eq_self, ne_eq, not_true_eq_false, not_false_eq_true, and_true, true_and, and_self, and_false, false_and, true_or, or_true, false_or, or_false, reduceIte]; done) | (simp [c_2]; done))) (zIf_t (by first | assumption | (simp only [c_2, eq_self, ne_eq, not_true_eq_false, not_false_eq_true, and_true, true_and, and_self, and_false, false_and, true_or, or_true, false_or, or_false, reduceIte]; done) | (simp [c_2]; done) | grind) (by first | exact hM | (simpa only [c_2, eq_self, ne_eq, not_true_eq_false, not_false_eq_true, and_true, true_and, and_self, and_false, false_and, true_or, or_true, false_or, or_false, reduceIte] using hM) | (simpa [c_2] using hM))) dX5_run_16

set_option maxHeartbeats 4000000 in
set_option maxRecDepth 100000 in
theorem p_X5_value (l : Launch) (G : zG) (A : Nat → Prop) (ad : Nat → Nat) (hA : zAm G ad A) (th : Int32) (cp hf : Nat → Int32) (d : Nat) (hd : d ≤ 6) (sl sv : Nat → Int32) (n : Nat) (hn12 : n ≤ 12) (g : Nat → Int32) (τ : zT) (x : Int32) (w : Nat) (hw : w < 9) : zMi l G A yX5_value wsX5_value 2 43 [.ref (ad 0), .int x, .int (nI w)] (zMP G ad (th, cp, hf, nI d, sl, sv) n g τ) (zVl n τ x w) (zMP G ad (th, cp, hf, nI d, sl, sv) n g τ) := by
  refine z_met (cc := cX5_value) (maxL := 3) (ret := (some .int)) (by decide) rfl (Nat.le_of_ble_eq_true rfl) ?_
  intro p e s m below meth c ls S hr hlk hnm hM hK hl
  have S : CallFix p m c cX5_value 3 s _ wsX5_value RX5 := S
  obtain ⟨hx, hb, hml, hown, hts⟩ := id S
  have hS : va_S A s.heap s.heap [] := va_S.rf
  have hl : lv_has ls 3 [(0, .ref (ad 0)), (1, .int x), (2, .int (nI w))] := hl
  refine lv_aload_n hx hb dX5_value_0 rfl (lv_at hl 0 rfl) ?_
  refine lv_iload_n hx hb dX5_value_1 rfl (lv_at hl 1 rfl) ?_
  refine z_vi (As := [.int x]) (rest := []) (P2 := zMP G ad (th, cp, hf, nI d, sl, sv) n g τ) (r := zBi (¬ x < 0 ∧ x < nI n)) S (c_X5_isSensor l G A ad (th, cp, hf, nI d, sl, sv) n g hA hn12  τ x) (cwV 1 hts gX5_value_X5_isSensor rfl rfl rfl (by decide +kernel) ⟨Nat.le_of_ble_eq_true rfl, Nat.le_of_ble_eq_true rfl⟩) (z_recM hK hM) hM hK hS (fun _ _ h => h) (fun _ h => h) hl.1 rfl rfl (Nat.le_of_ble_eq_true rfl) dX5_value_2 ⟨Nat.le_refl _, Nat.le_refl _⟩ (fun H locs hM hS _ => ?_)
  refine lv_if_eq (tgt := 17) hx hb dX5_value_5 (by decide) (fun c_1 => ?_) (fun c_2 => ?_)
  · skip
    have c_1 := zBi_0.mp c_1
    refine lv_iconst (v := -1) hx hb dX5_value_17 (by decide) ?_
    exact z_iretE hx hb hr hlk hK hS (by first | rfl | (simp only [zVl, c_1, eq_self, ne_eq, not_true_eq_false, not_false_eq_true, and_true, true_and, and_self, and_false, false_and, true_or, or_true, false_or, or_false, reduceIte]; done) | (simp [zVl, c_1]; done)) (by first | exact hM | (simpa only [zVl, c_1, eq_self, ne_eq, not_true_eq_false, not_false_eq_true, and_true, true_and, and_self, and_false, false_and, true_or, or_true, false_or, or_false, reduceIte] using hM) | (simpa [zVl, c_1] using hM)) dX5_value_18
  · skip
    have c_2 := zBi_n0.mp c_2
    obtain ⟨k, hk, rfl⟩ := zIn_of (by omega) c_2
    have hc_k : (nI k).toNatClampNeg = k := nI_clamp (by omega)
    refine lv_aload_n hx hb dX5_value_8 rfl (lv_at hl 0 rfl) ?_
    refine lv_iload_n hx hb dX5_value_9 rfl (lv_at hl 1 rfl) ?_
    refine lv_iload_n hx hb dX5_value_10 rfl (lv_at hl 2 rfl) ?_
    refine z_vi (As := [.int (nI k), .int (nI w)]) (rest := []) (P2 := zMP G ad (th, cp, hf, nI d, sl, sv) n g τ) (r := τ w k) S (c_X5_of l G A ad (th, cp, hf, nI d, sl, sv) n g hA hn12  τ k w (by omega) (by omega)) (cwV 2 hts gX5_value_X5_of rfl rfl rfl (by decide +kernel) ⟨Nat.le_of_ble_eq_true rfl, Nat.le_of_ble_eq_true rfl⟩) (z_recM hK hM) hM hK hS (fun _ _ h => h) (fun _ h => h) hl.1 rfl rfl (Nat.le_of_ble_eq_true rfl) dX5_value_11 ⟨Nat.le_refl _, Nat.le_refl _⟩ (fun H locs hM hS _ => ?_)
    refine lv_goto (tgt := 18) hx hb dX5_value_14 (by decide) ?_
    exact z_iretE hx hb hr hlk hK hS (by first | rfl | (simp only [zVl, c_2, hc_k, eq_self, ne_eq, not_true_eq_false, not_false_eq_true, and_true, true_and, and_self, and_false, false_and, true_or, or_true, false_or, or_false, reduceIte]; done) | (simp [zVl, c_2, hc_k]; done)) (by first | exact hM | (simpa only [zVl, c_2, hc_k, eq_self, ne_eq, not_true_eq_false, not_false_eq_true, and_true, true_and, and_self, and_false, false_and, true_or, or_true, false_or, or_false, reduceIte] using hM) | (simpa [zVl, c_2, hc_k] using hM)) dX5_value_18

theorem in_X5_isAlive_X5 : ∀ w ∈ wsX50, w ∈ wsX5_isAlive := by decide +kernel
set_option maxHeartbeats 4000000 in
set_option maxRecDepth 100000 in
theorem p_X5_isAlive (l : Launch) (G : zG) (A : Nat → Prop) (ad : Nat → Nat) (hA : zAm G ad A) (th : Int32) (cp hf : Nat → Int32) (d : Nat) (hd : d ≤ 6) (sl sv : Nat → Int32) (n : Nat) (hn12 : n ≤ 12) (g : Nat → Int32) (τ : zT) (x : Int32) : zMi l G A yX5_isAlive wsX5_isAlive 3 65 [.ref (ad 0), .int x] (zMP G ad (th, cp, hf, nI d, sl, sv) n g τ) (zVl n τ x 3) (zMP G ad (0, cp, hf, nI d, sl, sv) n g τ) := by
  refine z_met (cc := cX5_isAlive) (maxL := 2) (ret := (some .int)) (by decide) rfl (Nat.le_of_ble_eq_true rfl) ?_
  intro p e s m below meth c ls S hr hlk hnm hM hK hl
  have S : CallFix p m c cX5_isAlive 2 s _ wsX5_isAlive RX5 := S
  obtain ⟨hx, hb, hml, hown, hts⟩ := id S
  have hS : va_S A s.heap s.heap [] := va_S.rf
  have hl : lv_has ls 2 [(0, .ref (ad 0)), (1, .int x)] := hl
  refine lv_aload_n hx hb dX5_isAlive_0 rfl (lv_at hl 0 rfl) ?_
  refine lv_iconst (v := 0) hx hb dX5_isAlive_1 (by decide) ?_
  refine z_putM (w := 0) hx hb hts hown in_X5_isAlive_X5 hK hA hS hM 0 (by decide) rfl (hts _ (List.mem_of_getElem? (i := 1) (by decide +kernel))) (by decide +kernel) rfl (0, cp, hf, nI d, sl, sv) rfl ⟨rfl, rfl, rfl⟩ dX5_isAlive_2 (fun H locs hM hS => ?_)
  have hM : zMP G ad (0, cp, hf, nI d, sl, sv) n g τ H := hM
  refine lv_aload_n hx hb dX5_isAlive_5 rfl (lv_at hl 0 rfl) ?_
  refine lv_iload_n hx hb dX5_isAlive_6 rfl (lv_at hl 1 rfl) ?_
  refine lv_iconst (v := 3) hx hb dX5_isAlive_7 (by decide) ?_
  refine z_vi (As := [.int x, .int 3]) (rest := []) (P2 := zMP G ad (0, cp, hf, nI d, sl, sv) n g τ) (r := zVl n τ x 3) S (p_X5_value l G A ad hA 0 cp hf d hd sl sv n hn12 g τ x 3 (by omega)) (cwV 2 hts gX5_isAlive_X5_value rfl rfl rfl (by decide +kernel) ⟨Nat.le_of_ble_eq_true rfl, Nat.le_of_ble_eq_true rfl⟩) (z_recM hK hM) hM hK hS (fun _ _ h => h) (fun _ h => h) hl.1 rfl rfl (Nat.le_of_ble_eq_true rfl) dX5_isAlive_8 ⟨Nat.le_refl _, Nat.le_refl _⟩ (fun H locs hM hS _ => ?_)
  exact z_iretE hx hb hr hlk hK hS (by first | rfl | (simp only [eq_self, ne_eq, not_true_eq_false, not_false_eq_true, and_true, true_and, and_self, and_false, false_and, true_or, or_true, false_or, or_false, reduceIte]; done) | (simp []; done)) (by first | exact hM | (simpa only [eq_self, ne_eq, not_true_eq_false, not_false_eq_true, and_true, true_and, and_self, and_false, false_and, true_or, or_true, false_or, or_false, reduceIte] using hM) | (simpa [] using hM)) dX5_isAlive_11

theorem in_X5_battery_X5 : ∀ w ∈ wsX50, w ∈ wsX5_battery := by decide +kernel
set_option maxHeartbeats 4000000 in
set_option maxRecDepth 100000 in
theorem p_X5_battery (l : Launch) (G : zG) (A : Nat → Prop) (ad : Nat → Nat) (hA : zAm G ad A) (th : Int32) (cp hf : Nat → Int32) (d : Nat) (hd : d ≤ 6) (sl sv : Nat → Int32) (n : Nat) (hn12 : n ≤ 12) (g : Nat → Int32) (τ : zT) (x : Int32) : zMi l G A yX5_battery wsX5_battery 3 65 [.ref (ad 0), .int x] (zMP G ad (th, cp, hf, nI d, sl, sv) n g τ) (zVl n τ x 2) (zMP G ad (0, cp, hf, nI d, sl, sv) n g τ) := by
  refine z_met (cc := cX5_battery) (maxL := 2) (ret := (some .int)) (by decide) rfl (Nat.le_of_ble_eq_true rfl) ?_
  intro p e s m below meth c ls S hr hlk hnm hM hK hl
  have S : CallFix p m c cX5_battery 2 s _ wsX5_battery RX5 := S
  obtain ⟨hx, hb, hml, hown, hts⟩ := id S
  have hS : va_S A s.heap s.heap [] := va_S.rf
  have hl : lv_has ls 2 [(0, .ref (ad 0)), (1, .int x)] := hl
  refine lv_aload_n hx hb dX5_battery_0 rfl (lv_at hl 0 rfl) ?_
  refine lv_iconst (v := 0) hx hb dX5_battery_1 (by decide) ?_
  refine z_putM (w := 0) hx hb hts hown in_X5_battery_X5 hK hA hS hM 0 (by decide) rfl (hts _ (List.mem_of_getElem? (i := 1) (by decide +kernel))) (by decide +kernel) rfl (0, cp, hf, nI d, sl, sv) rfl ⟨rfl, rfl, rfl⟩ dX5_battery_2 (fun H locs hM hS => ?_)
  have hM : zMP G ad (0, cp, hf, nI d, sl, sv) n g τ H := hM
  refine lv_aload_n hx hb dX5_battery_5 rfl (lv_at hl 0 rfl) ?_
  refine lv_iload_n hx hb dX5_battery_6 rfl (lv_at hl 1 rfl) ?_
  refine lv_iconst (v := 2) hx hb dX5_battery_7 (by decide) ?_
  refine z_vi (As := [.int x, .int 2]) (rest := []) (P2 := zMP G ad (0, cp, hf, nI d, sl, sv) n g τ) (r := zVl n τ x 2) S (p_X5_value l G A ad hA 0 cp hf d hd sl sv n hn12 g τ x 2 (by omega)) (cwV 2 hts gX5_battery_X5_value rfl rfl rfl (by decide +kernel) ⟨Nat.le_of_ble_eq_true rfl, Nat.le_of_ble_eq_true rfl⟩) (z_recM hK hM) hM hK hS (fun _ _ h => h) (fun _ h => h) hl.1 rfl rfl (Nat.le_of_ble_eq_true rfl) dX5_battery_8 ⟨Nat.le_refl _, Nat.le_refl _⟩ (fun H locs hM hS _ => ?_)
  exact z_iretE hx hb hr hlk hK hS (by first | rfl | (simp only [eq_self, ne_eq, not_true_eq_false, not_false_eq_true, and_true, true_and, and_self, and_false, false_and, true_or, or_true, false_or, or_false, reduceIte]; done) | (simp []; done)) (by first | exact hM | (simpa only [eq_self, ne_eq, not_true_eq_false, not_false_eq_true, and_true, true_and, and_self, and_false, false_and, true_or, or_true, false_or, or_false, reduceIte] using hM) | (simpa [] using hM)) dX5_battery_11

theorem in_X5_headRounds_X5 : ∀ w ∈ wsX50, w ∈ wsX5_headRounds := by decide +kernel
set_option maxHeartbeats 4000000 in
set_option maxRecDepth 100000 in
theorem p_X5_headRounds (l : Launch) (G : zG) (A : Nat → Prop) (ad : Nat → Nat) (hA : zAm G ad A) (th : Int32) (cp hf : Nat → Int32) (d : Nat) (hd : d ≤ 6) (sl sv : Nat → Int32) (n : Nat) (hn12 : n ≤ 12) (g : Nat → Int32) (τ : zT) (x : Int32) : zMi l G A yX5_headRounds wsX5_headRounds 3 65 [.ref (ad 0), .int x] (zMP G ad (th, cp, hf, nI d, sl, sv) n g τ) (zVl n τ x 5) (zMP G ad (0, cp, hf, nI d, sl, sv) n g τ) := by
  refine z_met (cc := cX5_headRounds) (maxL := 2) (ret := (some .int)) (by decide) rfl (Nat.le_of_ble_eq_true rfl) ?_
  intro p e s m below meth c ls S hr hlk hnm hM hK hl
  have S : CallFix p m c cX5_headRounds 2 s _ wsX5_headRounds RX5 := S
  obtain ⟨hx, hb, hml, hown, hts⟩ := id S
  have hS : va_S A s.heap s.heap [] := va_S.rf
  have hl : lv_has ls 2 [(0, .ref (ad 0)), (1, .int x)] := hl
  refine lv_aload_n hx hb dX5_headRounds_0 rfl (lv_at hl 0 rfl) ?_
  refine lv_iconst (v := 0) hx hb dX5_headRounds_1 (by decide) ?_
  refine z_putM (w := 0) hx hb hts hown in_X5_headRounds_X5 hK hA hS hM 0 (by decide) rfl (hts _ (List.mem_of_getElem? (i := 1) (by decide +kernel))) (by decide +kernel) rfl (0, cp, hf, nI d, sl, sv) rfl ⟨rfl, rfl, rfl⟩ dX5_headRounds_2 (fun H locs hM hS => ?_)
  have hM : zMP G ad (0, cp, hf, nI d, sl, sv) n g τ H := hM
  refine lv_aload_n hx hb dX5_headRounds_5 rfl (lv_at hl 0 rfl) ?_
  refine lv_iload_n hx hb dX5_headRounds_6 rfl (lv_at hl 1 rfl) ?_
  refine lv_iconst (v := 5) hx hb dX5_headRounds_7 (by decide) ?_
  refine z_vi (As := [.int x, .int 5]) (rest := []) (P2 := zMP G ad (0, cp, hf, nI d, sl, sv) n g τ) (r := zVl n τ x 5) S (p_X5_value l G A ad hA 0 cp hf d hd sl sv n hn12 g τ x 5 (by omega)) (cwV 2 hts gX5_headRounds_X5_value rfl rfl rfl (by decide +kernel) ⟨Nat.le_of_ble_eq_true rfl, Nat.le_of_ble_eq_true rfl⟩) (z_recM hK hM) hM hK hS (fun _ _ h => h) (fun _ h => h) hl.1 rfl rfl (Nat.le_of_ble_eq_true rfl) dX5_headRounds_8 ⟨Nat.le_refl _, Nat.le_refl _⟩ (fun H locs hM hS _ => ?_)
  exact z_iretE hx hb hr hlk hK hS (by first | rfl | (simp only [eq_self, ne_eq, not_true_eq_false, not_false_eq_true, and_true, true_and, and_self, and_false, false_and, true_or, or_true, false_or, or_false, reduceIte]; done) | (simp []; done)) (by first | exact hM | (simpa only [eq_self, ne_eq, not_true_eq_false, not_false_eq_true, and_true, true_and, and_self, and_false, false_and, true_or, or_true, false_or, or_false, reduceIte] using hM) | (simpa [] using hM)) dX5_headRounds_11

theorem in_X5_deathRound_X5 : ∀ w ∈ wsX50, w ∈ wsX5_deathRound := by decide +kernel
set_option maxHeartbeats 4000000 in
set_option maxRecDepth 100000 in
theorem p_X5_deathRound (l : Launch) (G : zG) (A : Nat → Prop) (ad : Nat → Nat) (hA : zAm G ad A) (th : Int32) (cp hf : Nat → Int32) (d : Nat) (hd : d ≤ 6) (sl sv : Nat → Int32) (n : Nat) (hn12 : n ≤ 12) (g : Nat → Int32) (τ : zT) (x : Int32) : zMi l G A yX5_deathRound wsX5_deathRound 3 65 [.ref (ad 0), .int x] (zMP G ad (th, cp, hf, nI d, sl, sv) n g τ) (zVl n τ x 6) (zMP G ad (0, cp, hf, nI d, sl, sv) n g τ) := by
  refine z_met (cc := cX5_deathRound) (maxL := 2) (ret := (some .int)) (by decide) rfl (Nat.le_of_ble_eq_true rfl) ?_
  intro p e s m below meth c ls S hr hlk hnm hM hK hl
  have S : CallFix p m c cX5_deathRound 2 s _ wsX5_deathRound RX5 := S
  obtain ⟨hx, hb, hml, hown, hts⟩ := id S
  have hS : va_S A s.heap s.heap [] := va_S.rf
  have hl : lv_has ls 2 [(0, .ref (ad 0)), (1, .int x)] := hl
  refine lv_aload_n hx hb dX5_deathRound_0 rfl (lv_at hl 0 rfl) ?_
  refine lv_iconst (v := 0) hx hb dX5_deathRound_1 (by decide) ?_
  refine z_putM (w := 0) hx hb hts hown in_X5_deathRound_X5 hK hA hS hM 0 (by decide) rfl (hts _ (List.mem_of_getElem? (i := 1) (by decide +kernel))) (by decide +kernel) rfl (0, cp, hf, nI d, sl, sv) rfl ⟨rfl, rfl, rfl⟩ dX5_deathRound_2 (fun H locs hM hS => ?_)
  have hM : zMP G ad (0, cp, hf, nI d, sl, sv) n g τ H := hM
  refine lv_aload_n hx hb dX5_deathRound_5 rfl (lv_at hl 0 rfl) ?_
  refine lv_iload_n hx hb dX5_deathRound_6 rfl (lv_at hl 1 rfl) ?_
  refine lv_bipush (v := 6) hx hb dX5_deathRound_7 (by decide) ?_
  refine z_vi (As := [.int x, .int 6]) (rest := []) (P2 := zMP G ad (0, cp, hf, nI d, sl, sv) n g τ) (r := zVl n τ x 6) S (p_X5_value l G A ad hA 0 cp hf d hd sl sv n hn12 g τ x 6 (by omega)) (cwV 2 hts gX5_deathRound_X5_value rfl rfl rfl (by decide +kernel) ⟨Nat.le_of_ble_eq_true rfl, Nat.le_of_ble_eq_true rfl⟩) (z_recM hK hM) hM hK hS (fun _ _ h => h) (fun _ h => h) hl.1 rfl rfl (Nat.le_of_ble_eq_true rfl) dX5_deathRound_9 ⟨Nat.le_refl _, Nat.le_refl _⟩ (fun H locs hM hS _ => ?_)
  exact z_iretE hx hb hr hlk hK hS (by first | rfl | (simp only [eq_self, ne_eq, not_true_eq_false, not_false_eq_true, and_true, true_and, and_self, and_false, false_and, true_or, or_true, false_or, or_false, reduceIte]; done) | (simp []; done)) (by first | exact hM | (simpa only [eq_self, ne_eq, not_true_eq_false, not_false_eq_true, and_true, true_and, and_self, and_false, false_and, true_or, or_true, false_or, or_false, reduceIte] using hM) | (simpa [] using hM)) dX5_deathRound_12

theorem in_X5_headOf_X5 : ∀ w ∈ wsX50, w ∈ wsX5_headOf := by decide +kernel
set_option maxHeartbeats 4000000 in
set_option maxRecDepth 100000 in
theorem p_X5_headOf (l : Launch) (G : zG) (A : Nat → Prop) (ad : Nat → Nat) (hA : zAm G ad A) (th : Int32) (cp hf : Nat → Int32) (d : Nat) (hd : d ≤ 6) (sl sv : Nat → Int32) (n : Nat) (hn12 : n ≤ 12) (g : Nat → Int32) (τ : zT) (x : Int32) : zMi l G A yX5_headOf wsX5_headOf 3 65 [.ref (ad 0), .int x] (zMP G ad (th, cp, hf, nI d, sl, sv) n g τ) (zVl n τ x 7) (zMP G ad (0, cp, hf, nI d, sl, sv) n g τ) := by
  refine z_met (cc := cX5_headOf) (maxL := 2) (ret := (some .int)) (by decide) rfl (Nat.le_of_ble_eq_true rfl) ?_
  intro p e s m below meth c ls S hr hlk hnm hM hK hl
  have S : CallFix p m c cX5_headOf 2 s _ wsX5_headOf RX5 := S
  obtain ⟨hx, hb, hml, hown, hts⟩ := id S
  have hS : va_S A s.heap s.heap [] := va_S.rf
  have hl : lv_has ls 2 [(0, .ref (ad 0)), (1, .int x)] := hl
  refine lv_aload_n hx hb dX5_headOf_0 rfl (lv_at hl 0 rfl) ?_
  refine lv_iconst (v := 0) hx hb dX5_headOf_1 (by decide) ?_
  refine z_putM (w := 0) hx hb hts hown in_X5_headOf_X5 hK hA hS hM 0 (by decide) rfl (hts _ (List.mem_of_getElem? (i := 1) (by decide +kernel))) (by decide +kernel) rfl (0, cp, hf, nI d, sl, sv) rfl ⟨rfl, rfl, rfl⟩ dX5_headOf_2 (fun H locs hM hS => ?_)
  have hM : zMP G ad (0, cp, hf, nI d, sl, sv) n g τ H := hM
  refine lv_aload_n hx hb dX5_headOf_5 rfl (lv_at hl 0 rfl) ?_
  refine lv_iload_n hx hb dX5_headOf_6 rfl (lv_at hl 1 rfl) ?_
  refine lv_bipush (v := 7) hx hb dX5_headOf_7 (by decide) ?_
  refine z_vi (As := [.int x, .int 7]) (rest := []) (P2 := zMP G ad (0, cp, hf, nI d, sl, sv) n g τ) (r := zVl n τ x 7) S (p_X5_value l G A ad hA 0 cp hf d hd sl sv n hn12 g τ x 7 (by omega)) (cwV 2 hts gX5_headOf_X5_value rfl rfl rfl (by decide +kernel) ⟨Nat.le_of_ble_eq_true rfl, Nat.le_of_ble_eq_true rfl⟩) (z_recM hK hM) hM hK hS (fun _ _ h => h) (fun _ h => h) hl.1 rfl rfl (Nat.le_of_ble_eq_true rfl) dX5_headOf_9 ⟨Nat.le_refl _, Nat.le_refl _⟩ (fun H locs hM hS _ => ?_)
  exact z_iretE hx hb hr hlk hK hS (by first | rfl | (simp only [eq_self, ne_eq, not_true_eq_false, not_false_eq_true, and_true, true_and, and_self, and_false, false_and, true_or, or_true, false_or, or_false, reduceIte]; done) | (simp []; done)) (by first | exact hM | (simpa only [eq_self, ne_eq, not_true_eq_false, not_false_eq_true, and_true, true_and, and_self, and_false, false_and, true_or, or_true, false_or, or_false, reduceIte] using hM) | (simpa [] using hM)) dX5_headOf_12

theorem in_X5_slotOf_X5 : ∀ w ∈ wsX50, w ∈ wsX5_slotOf := by decide +kernel
set_option maxHeartbeats 4000000 in
set_option maxRecDepth 100000 in
theorem p_X5_slotOf (l : Launch) (G : zG) (A : Nat → Prop) (ad : Nat → Nat) (hA : zAm G ad A) (th : Int32) (cp hf : Nat → Int32) (d : Nat) (hd : d ≤ 6) (sl sv : Nat → Int32) (n : Nat) (hn12 : n ≤ 12) (g : Nat → Int32) (τ : zT) (x : Int32) : zMi l G A yX5_slotOf wsX5_slotOf 3 65 [.ref (ad 0), .int x] (zMP G ad (th, cp, hf, nI d, sl, sv) n g τ) (zVl n τ x 8) (zMP G ad (0, cp, hf, nI d, sl, sv) n g τ) := by
  refine z_met (cc := cX5_slotOf) (maxL := 2) (ret := (some .int)) (by decide) rfl (Nat.le_of_ble_eq_true rfl) ?_
  intro p e s m below meth c ls S hr hlk hnm hM hK hl
  have S : CallFix p m c cX5_slotOf 2 s _ wsX5_slotOf RX5 := S
  obtain ⟨hx, hb, hml, hown, hts⟩ := id S
  have hS : va_S A s.heap s.heap [] := va_S.rf
  have hl : lv_has ls 2 [(0, .ref (ad 0)), (1, .int x)] := hl
  refine lv_aload_n hx hb dX5_slotOf_0 rfl (lv_at hl 0 rfl) ?_
  refine lv_iconst (v := 0) hx hb dX5_slotOf_1 (by decide) ?_
  refine z_putM (w := 0) hx hb hts hown in_X5_slotOf_X5 hK hA hS hM 0 (by decide) rfl (hts _ (List.mem_of_getElem? (i := 1) (by decide +kernel))) (by decide +kernel) rfl (0, cp, hf, nI d, sl, sv) rfl ⟨rfl, rfl, rfl⟩ dX5_slotOf_2 (fun H locs hM hS => ?_)
  have hM : zMP G ad (0, cp, hf, nI d, sl, sv) n g τ H := hM
  refine lv_aload_n hx hb dX5_slotOf_5 rfl (lv_at hl 0 rfl) ?_
  refine lv_iload_n hx hb dX5_slotOf_6 rfl (lv_at hl 1 rfl) ?_
  refine lv_bipush (v := 8) hx hb dX5_slotOf_7 (by decide) ?_
  refine z_vi (As := [.int x, .int 8]) (rest := []) (P2 := zMP G ad (0, cp, hf, nI d, sl, sv) n g τ) (r := zVl n τ x 8) S (p_X5_value l G A ad hA 0 cp hf d hd sl sv n hn12 g τ x 8 (by omega)) (cwV 2 hts gX5_slotOf_X5_value rfl rfl rfl (by decide +kernel) ⟨Nat.le_of_ble_eq_true rfl, Nat.le_of_ble_eq_true rfl⟩) (z_recM hK hM) hM hK hS (fun _ _ h => h) (fun _ h => h) hl.1 rfl rfl (Nat.le_of_ble_eq_true rfl) dX5_slotOf_9 ⟨Nat.le_refl _, Nat.le_refl _⟩ (fun H locs hM hS _ => ?_)
  exact z_iretE hx hb hr hlk hK hS (by first | rfl | (simp only [eq_self, ne_eq, not_true_eq_false, not_false_eq_true, and_true, true_and, and_self, and_false, false_and, true_or, or_true, false_or, or_false, reduceIte]; done) | (simp []; done)) (by first | exact hM | (simpa only [eq_self, ne_eq, not_true_eq_false, not_false_eq_true, and_true, true_and, and_self, and_false, false_and, true_or, or_true, false_or, or_false, reduceIte] using hM) | (simpa [] using hM)) dX5_slotOf_12

theorem in_X5_isEligible_X5 : ∀ w ∈ wsX50, w ∈ wsX5_isEligible := by decide +kernel
set_option maxHeartbeats 4000000 in
set_option maxRecDepth 100000 in
theorem p_X5_isEligible (l : Launch) (G : zG) (A : Nat → Prop) (ad : Nat → Nat) (hA : zAm G ad A) (th : Int32) (cp hf : Nat → Int32) (d : Nat) (hd : d ≤ 6) (sl sv : Nat → Int32) (n : Nat) (hn12 : n ≤ 12) (g : Nat → Int32) (hd3 : 0 < g 3) (τ : zT) (x : Int32) : zMi l G A yX5_isEligible wsX5_isEligible 2 43 [.ref (ad 0), .int x] (zMP G ad (th, cp, hf, nI d, sl, sv) n g τ) (if ¬ (¬ x < 0 ∧ x < nI n) then -1 else zBi (τ 3 x.toNatClampNeg = 1 ∧ (τ 4 x.toNatClampNeg = 1 ∨ zPh g τ = 0))) (if ¬ (¬ x < 0 ∧ x < nI n) then (zMP G ad (0, cp, hf, nI d, sl, sv) n g τ) else (zMP G ad (0, cp, hf, nI d, sl, sv) n g τ)) := by
  refine z_met (cc := cX5_isEligible) (maxL := 3) (ret := (some .int)) (by decide) rfl (Nat.le_of_ble_eq_true rfl) ?_
  intro p e s m below meth c ls S hr hlk hnm hM hK hl
  have S : CallFix p m c cX5_isEligible 3 s _ wsX5_isEligible RX5 := S
  obtain ⟨hx, hb, hml, hown, hts⟩ := id S
  have hS : va_S A s.heap s.heap [] := va_S.rf
  have hl : lv_has ls 3 [(0, .ref (ad 0)), (1, .int x)] := hl
  refine lv_aload_n hx hb dX5_isEligible_0 rfl (lv_at hl 0 rfl) ?_
  refine lv_iconst (v := 0) hx hb dX5_isEligible_1 (by decide) ?_
  refine z_putM (w := 0) hx hb hts hown in_X5_isEligible_X5 hK hA hS hM 0 (by decide) rfl (hts _ (List.mem_of_getElem? (i := 1) (by decide +kernel))) (by decide +kernel) rfl (0, cp, hf, nI d, sl, sv) rfl ⟨rfl, rfl, rfl⟩ dX5_isEligible_2 (fun H locs hM hS => ?_)
  have hM : zMP G ad (0, cp, hf, nI d, sl, sv) n g τ H := hM
  refine lv_aload_n hx hb dX5_isEligible_5 rfl (lv_at hl 0 rfl) ?_
  refine lv_iload_n hx hb dX5_isEligible_6 rfl (lv_at hl 1 rfl) ?_
  refine z_vi (As := [.int x]) (rest := []) (P2 := zMP G ad (0, cp, hf, nI d, sl, sv) n g τ) (r := zBi (¬ x < 0 ∧ x < nI n)) S (c_X5_isSensor l G A ad (0, cp, hf, nI d, sl, sv) n g hA hn12  τ x) (cwV 1 hts gX5_isEligible_X5_isSensor rfl rfl rfl (by decide +kernel) ⟨Nat.le_of_ble_eq_true rfl, Nat.le_of_ble_eq_true rfl⟩) (z_recM hK hM) hM hK hS (fun _ _ h => h) (fun _ h => h) hl.1 rfl rfl (Nat.le_of_ble_eq_true rfl) dX5_isEligible_7 ⟨Nat.le_refl _, Nat.le_refl _⟩ (fun H locs hM hS _ => ?_)
  refine lv_if_ne (tgt := 15) hx hb dX5_isEligible_10 (by decide) (fun c_1 => ?_) (fun c_2 => ?_)
  · skip
    have c_1 := zBi_n0.mp c_1
    obtain ⟨k, hk, rfl⟩ := zIn_of (by omega) c_1
    have hc_k : (nI k).toNatClampNeg = k := nI_clamp (by omega)
    refine lv_aload_n hx hb dX5_isEligible_15 rfl (lv_at hl 0 rfl) ?_
    refine lv_iload_n hx hb dX5_isEligible_16 rfl (lv_at hl 1 rfl) ?_
    refine z_vi (As := [.int (nI k)]) (rest := []) (P2 := zMP G ad (0, cp, hf, nI d, sl, sv) n g τ) (r := zBi (τ 3 k = 1)) S (c_X5_lives l G A ad (0, cp, hf, nI d, sl, sv) n g hA hn12  τ k (by omega)) (cwV 1 hts gX5_isEligible_X5_lives rfl rfl rfl (by decide +kernel) ⟨Nat.le_of_ble_eq_true rfl, Nat.le_of_ble_eq_true rfl⟩) (z_recM hK hM) hM hK hS (fun _ _ h => h) (fun _ h => h) hl.1 rfl rfl (Nat.le_of_ble_eq_true rfl) dX5_isEligible_17 ⟨Nat.le_refl _, Nat.le_refl _⟩ (fun H locs hM hS _ => ?_)
    refine lv_if_eq (tgt := 53) hx hb dX5_isEligible_20 (by decide) (fun c_3 => ?_) (fun c_4 => ?_)
    · skip
      have c_3 := zBi_0.mp c_3
      refine lv_iconst (v := 0) hx hb dX5_isEligible_53 (by decide) ?_
      refine lv_istore_n (lv' := [(2, .int 0), (0, .ref (ad 0)), (1, .int (nI k))]) hx hb dX5_isEligible_54 rfl hl (by decide) rfl (fun ls hl => ?_)
      refine lv_iload_n hx hb dX5_isEligible_55 rfl (lv_at hl 0 rfl) ?_
      refine lv_if_eq (tgt := 63) hx hb dX5_isEligible_56 (by decide) (fun _ => ?_) (fun q => absurd (by decide) q)
      refine lv_iconst (v := 0) hx hb dX5_isEligible_63 (by decide) ?_
      exact z_iretE hx hb hr hlk hK hS (zIr_n (by first | assumption | (simp only [zBi, c_1, hc_k, c_3, eq_self, ne_eq, not_true_eq_false, not_false_eq_true, and_true, true_and, and_self, and_false, false_and, true_or, or_true, false_or, or_false, reduceIte]; done) | (simp [zBi, c_1, hc_k, c_3]; done) | grind) (by first | rfl | (simp only [zBi, c_1, hc_k, c_3, eq_self, ne_eq, not_true_eq_false, not_false_eq_true, and_true, true_and, and_self, and_false, false_and, true_or, or_true, false_or, or_false, reduceIte]; done) | (simp [zBi, c_1, hc_k, c_3]; done))) (zIf_n (by first | assumption | (simp only [zBi, c_1, hc_k, c_3, eq_self, ne_eq, not_true_eq_false, not_false_eq_true, and_true, true_and, and_self, and_false, false_and, true_or, or_true, false_or, or_false, reduceIte]; done) | (simp [zBi, c_1, hc_k, c_3]; done) | grind) (by first | exact hM | (simpa only [zBi, c_1, hc_k, c_3, eq_self, ne_eq, not_true_eq_false, not_false_eq_true, and_true, true_and, and_self, and_false, false_and, true_or, or_true, false_or, or_false, reduceIte] using hM) | (simpa [zBi, c_1, hc_k, c_3] using hM))) dX5_isEligible_64
    · skip
      have c_4 := zBi_n0.mp c_4
      refine lv_aload_n hx hb dX5_isEligible_23 rfl (lv_at hl 0 rfl) ?_
      refine lv_iload_n hx hb dX5_isEligible_24 rfl (lv_at hl 1 rfl) ?_
      refine lv_iconst (v := 4) hx hb dX5_isEligible_25 (by decide) ?_
      refine z_vi (As := [.int (nI k), .int 4]) (rest := []) (P2 := zMP G ad (0, cp, hf, nI d, sl, sv) n g τ) (r := τ 4 k) S (c_X5_of l G A ad (0, cp, hf, nI d, sl, sv) n g hA hn12  τ k 4 (by omega) (by omega)) (cwV 2 hts gX5_isEligible_X5_of rfl rfl rfl (by decide +kernel) ⟨Nat.le_of_ble_eq_true rfl, Nat.le_of_ble_eq_true rfl⟩) (z_recM hK hM) hM hK hS (fun _ _ h => h) (fun _ h => h) hl.1 rfl rfl (Nat.le_of_ble_eq_true rfl) dX5_isEligible_26 ⟨Nat.le_refl _, Nat.le_refl _⟩ (fun H locs hM hS _ => ?_)
      refine lv_iconst (v := 1) hx hb dX5_isEligible_29 (by decide) ?_
      refine lv_icmp_eq (tgt := 49) hx hb dX5_isEligible_30 (by decide) (fun c_5 => ?_) (fun c_6 => ?_)
      · skip
        refine lv_iconst (v := 1) hx hb dX5_isEligible_49 (by decide) ?_
        refine lv_goto (tgt := 54) hx hb dX5_isEligible_50 (by decide) ?_
        refine lv_istore_n (lv' := [(2, .int 1), (0, .ref (ad 0)), (1, .int (nI k))]) hx hb dX5_isEligible_54 rfl hl (by decide) rfl (fun ls hl => ?_)
        refine lv_iload_n hx hb dX5_isEligible_55 rfl (lv_at hl 0 rfl) ?_
        refine lv_if_eq (tgt := 63) hx hb dX5_isEligible_56 (by decide) (fun q => absurd q (by decide)) (fun _ => ?_)
        refine lv_iconst (v := 1) hx hb dX5_isEligible_59 (by decide) ?_
        refine lv_goto (tgt := 64) hx hb dX5_isEligible_60 (by decide) ?_
        exact z_iretE hx hb hr hlk hK hS (zIr_n (by first | assumption | (simp only [zBi, c_1, hc_k, c_4, c_5, eq_self, ne_eq, not_true_eq_false, not_false_eq_true, and_true, true_and, and_self, and_false, false_and, true_or, or_true, false_or, or_false, reduceIte]; done) | (simp [zBi, c_1, hc_k, c_4, c_5]; done) | grind) (by first | rfl | (simp only [zBi, c_1, hc_k, c_4, c_5, eq_self, ne_eq, not_true_eq_false, not_false_eq_true, and_true, true_and, and_self, and_false, false_and, true_or, or_true, false_or, or_false, reduceIte]; done) | (simp [zBi, c_1, hc_k, c_4, c_5]; done))) (zIf_n (by first | assumption | (simp only [zBi, c_1, hc_k, c_4, c_5, eq_self, ne_eq, not_true_eq_false, not_false_eq_true, and_true, true_and, and_self, and_false, false_and, true_or, or_true, false_or, or_false, reduceIte]; done) | (simp [zBi, c_1, hc_k, c_4, c_5]; done) | grind) (by first | exact hM | (simpa only [zBi, c_1, hc_k, c_4, c_5, eq_self, ne_eq, not_true_eq_false, not_false_eq_true, and_true, true_and, and_self, and_false, false_and, true_or, or_true, false_or, or_false, reduceIte] using hM) | (simpa [zBi, c_1, hc_k, c_4, c_5] using hM))) dX5_isEligible_64
      · skip
        refine lv_aload_n hx hb dX5_isEligible_33 rfl (lv_at hl 0 rfl) ?_
        refine z_getM (v := .ref (ad 1)) hx hb hts hown in_X5_isEligible_X5 hK hM 1 (by decide) rfl (hts _ (List.mem_of_getElem? (i := 2) (by decide +kernel))) rfl dX5_isEligible_34 ?_
        refine lv_bipush (v := 10) hx hb dX5_isEligible_37 (by decide) ?_
        refine z_ldM (w := τ 11 10) hx hb hK hM 1 rfl 10 (by decide) (by decide) (by decide) rfl dX5_isEligible_39 ?_
        refine lv_aload_n hx hb dX5_isEligible_40 rfl (lv_at hl 0 rfl) ?_
        refine lv_iconst (v := 0) hx hb dX5_isEligible_41 (by decide) ?_
        refine z_vi (As := [.int 0]) (rest := [.int (τ 11 10)]) (P2 := zMP G ad (0, cp, hf, nI d, sl, sv) n g τ) (r := g 3) S (c_X5_setting l G A ad (0, cp, hf, nI d, sl, sv) n g hA hn12  τ 0 (by omega)) (cwV 1 hts gX5_isEligible_X5_setting rfl rfl rfl (by decide +kernel) ⟨Nat.le_of_ble_eq_true rfl, Nat.le_of_ble_eq_true rfl⟩) (z_recM hK hM) hM hK hS (fun _ _ h => h) (fun _ h => h) hl.1 rfl rfl (Nat.le_of_ble_eq_true rfl) dX5_isEligible_42 ⟨Nat.le_refl _, Nat.le_refl _⟩ (fun H locs hM hS _ => ?_)
        refine lv_irem hx hb dX5_isEligible_45 (fun q => absurd hd3 (by rw [q]; decide)) ?_
        refine z_top (x2 := zPh g τ) rfl ?_
        refine lv_if_ne (tgt := 53) hx hb dX5_isEligible_46 (by decide) (fun c_7 => ?_) (fun c_8 => ?_)
        · skip
          refine lv_iconst (v := 0) hx hb dX5_isEligible_53 (by decide) ?_
          refine lv_istore_n (lv' := [(2, .int 0), (0, .ref (ad 0)), (1, .int (nI k))]) hx hb dX5_isEligible_54 rfl hl (by decide) rfl (fun ls hl => ?_)
          refine lv_iload_n hx hb dX5_isEligible_55 rfl (lv_at hl 0 rfl) ?_
          refine lv_if_eq (tgt := 63) hx hb dX5_isEligible_56 (by decide) (fun _ => ?_) (fun q => absurd (by decide) q)
          refine lv_iconst (v := 0) hx hb dX5_isEligible_63 (by decide) ?_
          exact z_iretE hx hb hr hlk hK hS (zIr_n (by first | assumption | (simp only [zBi, c_1, hc_k, c_4, c_6, c_7, eq_self, ne_eq, not_true_eq_false, not_false_eq_true, and_true, true_and, and_self, and_false, false_and, true_or, or_true, false_or, or_false, reduceIte]; done) | (simp [zBi, c_1, hc_k, c_4, c_6, c_7]; done) | grind) (by first | rfl | (simp only [zBi, c_1, hc_k, c_4, c_6, c_7, eq_self, ne_eq, not_true_eq_false, not_false_eq_true, and_true, true_and, and_self, and_false, false_and, true_or, or_true, false_or, or_false, reduceIte]; done) | (simp [zBi, c_1, hc_k, c_4, c_6, c_7]; done))) (zIf_n (by first | assumption | (simp only [zBi, c_1, hc_k, c_4, c_6, c_7, eq_self, ne_eq, not_true_eq_false, not_false_eq_true, and_true, true_and, and_self, and_false, false_and, true_or, or_true, false_or, or_false, reduceIte]; done) | (simp [zBi, c_1, hc_k, c_4, c_6, c_7]; done) | grind) (by first | exact hM | (simpa only [zBi, c_1, hc_k, c_4, c_6, c_7, eq_self, ne_eq, not_true_eq_false, not_false_eq_true, and_true, true_and, and_self, and_false, false_and, true_or, or_true, false_or, or_false, reduceIte] using hM) | (simpa [zBi, c_1, hc_k, c_4, c_6, c_7] using hM))) dX5_isEligible_64
        · skip
          refine lv_iconst (v := 1) hx hb dX5_isEligible_49 (by decide) ?_
          refine lv_goto (tgt := 54) hx hb dX5_isEligible_50 (by decide) ?_
          refine lv_istore_n (lv' := [(2, .int 1), (0, .ref (ad 0)), (1, .int (nI k))]) hx hb dX5_isEligible_54 rfl hl (by decide) rfl (fun ls hl => ?_)
          refine lv_iload_n hx hb dX5_isEligible_55 rfl (lv_at hl 0 rfl) ?_
          refine lv_if_eq (tgt := 63) hx hb dX5_isEligible_56 (by decide) (fun q => absurd q (by decide)) (fun _ => ?_)
          refine lv_iconst (v := 1) hx hb dX5_isEligible_59 (by decide) ?_
          refine lv_goto (tgt := 64) hx hb dX5_isEligible_60 (by decide) ?_
          exact z_iretE hx hb hr hlk hK hS (zIr_n (by first | assumption | (simp only [zBi, c_1, hc_k, c_4, c_6, c_8, eq_self, ne_eq, not_true_eq_false, not_false_eq_true, and_true, true_and, and_self, and_false, false_and, true_or, or_true, false_or, or_false, reduceIte]; done) | (simp [zBi, c_1, hc_k, c_4, c_6, c_8]; done) | grind) (by first | rfl | (simp only [zBi, c_1, hc_k, c_4, c_6, c_8, eq_self, ne_eq, not_true_eq_false, not_false_eq_true, and_true, true_and, and_self, and_false, false_and, true_or, or_true, false_or, or_false, reduceIte]; done) | (simp [zBi, c_1, hc_k, c_4, c_6, c_8]; done))) (zIf_n (by first | assumption | (simp only [zBi, c_1, hc_k, c_4, c_6, c_8, eq_self, ne_eq, not_true_eq_false, not_false_eq_true, and_true, true_and, and_self, and_false, false_and, true_or, or_true, false_or, or_false, reduceIte]; done) | (simp [zBi, c_1, hc_k, c_4, c_6, c_8]; done) | grind) (by first | exact hM | (simpa only [zBi, c_1, hc_k, c_4, c_6, c_8, eq_self, ne_eq, not_true_eq_false, not_false_eq_true, and_true, true_and, and_self, and_false, false_and, true_or, or_true, false_or, or_false, reduceIte] using hM) | (simpa [zBi, c_1, hc_k, c_4, c_6, c_8] using hM))) dX5_isEligible_64
  · skip
    have c_2 := zBi_0.mp c_2
    refine lv_iconst (v := -1) hx hb dX5_isEligible_13 (by decide) ?_
    exact z_iretE hx hb hr hlk hK hS (zIr_t (by first | assumption | (simp only [zBi, c_2, eq_self, ne_eq, not_true_eq_false, not_false_eq_true, and_true, true_and, and_self, and_false, false_and, true_or, or_true, false_or, or_false, reduceIte]; done) | (simp [zBi, c_2]; done) | grind) (by first | rfl | (simp only [zBi, c_2, eq_self, ne_eq, not_true_eq_false, not_false_eq_true, and_true, true_and, and_self, and_false, false_and, true_or, or_true, false_or, or_false, reduceIte]; done) | (simp [zBi, c_2]; done))) (zIf_t (by first | assumption | (simp only [zBi, c_2, eq_self, ne_eq, not_true_eq_false, not_false_eq_true, and_true, true_and, and_self, and_false, false_and, true_or, or_true, false_or, or_false, reduceIte]; done) | (simp [zBi, c_2]; done) | grind) (by first | exact hM | (simpa only [zBi, c_2, eq_self, ne_eq, not_true_eq_false, not_false_eq_true, and_true, true_and, and_self, and_false, false_and, true_or, or_true, false_or, or_false, reduceIte] using hM) | (simpa [zBi, c_2] using hM))) dX5_isEligible_14

theorem in_X5_sendCost_X5 : ∀ w ∈ wsX50, w ∈ wsX5_sendCost := by decide +kernel
set_option maxHeartbeats 4000000 in
set_option maxRecDepth 100000 in
theorem p_X5_sendCost (l : Launch) (G : zG) (A : Nat → Prop) (ad : Nat → Nat) (hA : zAm G ad A) (th : Int32) (cp hf : Nat → Int32) (d : Nat) (hd : d ≤ 6) (sl sv : Nat → Int32) (n : Nat) (hn12 : n ≤ 12) (g : Nat → Int32) (hd5 : 0 < g 5) (τ : zT) (x y : Int32) : zMi l G A yX5_sendCost wsX5_sendCost 3 69 [.ref (ad 0), .int x, .int y] (zMP G ad (th, cp, hf, nI d, sl, sv) n g τ) (if ¬ ((¬ x < 0 ∧ x < nI n) ∧ (y = -9 ∨ (¬ y < 0 ∧ y < nI n)) ∧ ¬ x = y) then -1 else (if y = -9 then zCo g (zDb g τ x.toNatClampNeg) else zCo g (zDs τ x.toNatClampNeg y.toNatClampNeg))) (if ¬ ((¬ x < 0 ∧ x < nI n) ∧ (y = -9 ∨ (¬ y < 0 ∧ y < nI n)) ∧ ¬ x = y) then (zMP G ad (0, cp, hf, nI d, sl, sv) n g τ) else (if y = -9 then (zMP G ad (0, cp, hf, nI d, sl, sv) n g τ) else (zMP G ad (0, cp, hf, nI d, sl, sv) n g τ))) := by
  refine z_met (cc := cX5_sendCost) (maxL := 3) (ret := (some .int)) (by decide) rfl (Nat.le_of_ble_eq_true rfl) ?_
  intro p e s m below meth c ls S hr hlk hnm hM hK hl
  have S : CallFix p m c cX5_sendCost 3 s _ wsX5_sendCost RX5 := S
  obtain ⟨hx, hb, hml, hown, hts⟩ := id S
  have hS : va_S A s.heap s.heap [] := va_S.rf
  have hl : lv_has ls 3 [(0, .ref (ad 0)), (1, .int x), (2, .int y)] := hl
  refine lv_aload_n hx hb dX5_sendCost_0 rfl (lv_at hl 0 rfl) ?_
  refine lv_iconst (v := 0) hx hb dX5_sendCost_1 (by decide) ?_
  refine z_putM (w := 0) hx hb hts hown in_X5_sendCost_X5 hK hA hS hM 0 (by decide) rfl (hts _ (List.mem_of_getElem? (i := 1) (by decide +kernel))) (by decide +kernel) rfl (0, cp, hf, nI d, sl, sv) rfl ⟨rfl, rfl, rfl⟩ dX5_sendCost_2 (fun H locs hM hS => ?_)
  have hM : zMP G ad (0, cp, hf, nI d, sl, sv) n g τ H := hM
  refine lv_aload_n hx hb dX5_sendCost_5 rfl (lv_at hl 0 rfl) ?_
  refine lv_iload_n hx hb dX5_sendCost_6 rfl (lv_at hl 1 rfl) ?_
  refine z_vi (As := [.int x]) (rest := []) (P2 := zMP G ad (0, cp, hf, nI d, sl, sv) n g τ) (r := zBi (¬ x < 0 ∧ x < nI n)) S (c_X5_isSensor l G A ad (0, cp, hf, nI d, sl, sv) n g hA hn12  τ x) (cwV 1 hts gX5_sendCost_X5_isSensor rfl rfl rfl (by decide +kernel) ⟨Nat.le_of_ble_eq_true rfl, Nat.le_of_ble_eq_true rfl⟩) (z_recM hK hM) hM hK hS (fun _ _ h => h) (fun _ h => h) hl.1 rfl rfl (Nat.le_of_ble_eq_true rfl) dX5_sendCost_7 ⟨Nat.le_refl _, Nat.le_refl _⟩ (fun H locs hM hS _ => ?_)
  refine lv_if_eq (tgt := 32) hx hb dX5_sendCost_10 (by decide) (fun c_1 => ?_) (fun c_2 => ?_)
  · skip
    have c_1 := zBi_0.mp c_1
    refine lv_iconst (v := -1) hx hb dX5_sendCost_32 (by decide) ?_
    exact z_iretE hx hb hr hlk hK hS (zIr_t (by first | assumption | (simp only [c_1, eq_self, ne_eq, not_true_eq_false, not_false_eq_true, and_true, true_and, and_self, and_false, false_and, true_or, or_true, false_or, or_false, reduceIte]; done) | (simp [c_1]; done) | grind) (by first | rfl | (simp only [c_1, eq_self, ne_eq, not_true_eq_false, not_false_eq_true, and_true, true_and, and_self, and_false, false_and, true_or, or_true, false_or, or_false, reduceIte]; done) | (simp [c_1]; done))) (zIf_t (by first | assumption | (simp only [c_1, eq_self, ne_eq, not_true_eq_false, not_false_eq_true, and_true, true_and, and_self, and_false, false_and, true_or, or_true, false_or, or_false, reduceIte]; done) | (simp [c_1]; done) | grind) (by first | exact hM | (simpa only [c_1, eq_self, ne_eq, not_true_eq_false, not_false_eq_true, and_true, true_and, and_self, and_false, false_and, true_or, or_true, false_or, or_false, reduceIte] using hM) | (simpa [c_1] using hM))) dX5_sendCost_33
  · skip
    have c_2 := zBi_n0.mp c_2
    obtain ⟨k, hk, rfl⟩ := zIn_of (by omega) c_2
    have hc_k : (nI k).toNatClampNeg = k := nI_clamp (by omega)
    refine lv_iload_n hx hb dX5_sendCost_13 rfl (lv_at hl 2 rfl) ?_
    refine lv_bipush (v := -9) hx hb dX5_sendCost_14 (by decide) ?_
    refine lv_icmp_eq (tgt := 27) hx hb dX5_sendCost_16 (by decide) (fun c_3 => ?_) (fun c_4 => ?_)
    · skip
      subst c_3
      refine lv_iload_n hx hb dX5_sendCost_27 rfl (lv_at hl 1 rfl) ?_
      refine lv_iload_n hx hb dX5_sendCost_28 rfl (lv_at hl 2 rfl) ?_
      refine lv_icmp_ne (tgt := 34) hx hb dX5_sendCost_29 (by decide) (fun _ => ?_) (fun q => absurd q (zOi_lt (by omega))) 
      refine lv_aload_n hx hb dX5_sendCost_34 rfl (lv_at hl 0 rfl) ?_
      refine lv_iload_n hx hb dX5_sendCost_35 rfl (lv_at hl 2 rfl) ?_
      refine lv_bipush (v := -9) hx hb dX5_sendCost_36 (by decide) ?_
      refine lv_icmp_ne (tgt := 49) hx hb dX5_sendCost_38 (by decide) (fun q => absurd (by decide) q) (fun _ => ?_)
      refine lv_aload_n hx hb dX5_sendCost_41 rfl (lv_at hl 0 rfl) ?_
      refine lv_iload_n hx hb dX5_sendCost_42 rfl (lv_at hl 1 rfl) ?_
      refine z_vi (As := [.int (nI k)]) (rest := [.ref (ad 0)]) (P2 := zMP G ad (0, cp, hf, nI d, sl, sv) n g τ) (r := zDb g τ k) S (c_X5_distanceToBase l G A ad (0, cp, hf, nI d, sl, sv) n g hA hn12  τ k (by omega)) (cwV 1 hts gX5_sendCost_X5_distanceToBase rfl rfl rfl (by decide +kernel) ⟨Nat.le_of_ble_eq_true rfl, Nat.le_of_ble_eq_true rfl⟩) (z_recM hK hM) hM hK hS (fun _ _ h => h) (fun _ h => h) hl.1 rfl rfl (Nat.le_of_ble_eq_true rfl) dX5_sendCost_43 ⟨Nat.le_refl _, Nat.le_refl _⟩ (fun H locs hM hS _ => ?_)
      refine lv_goto (tgt := 55) hx hb dX5_sendCost_46 (by decide) ?_
      refine z_vi (As := [.int (zDb g τ k)]) (rest := []) (P2 := zMP G ad (0, cp, hf, nI d, sl, sv) n g τ) (r := zCo g (zDb g τ k)) S (c_X5_sendingCost l G A ad (0, cp, hf, nI d, sl, sv) n g hA hn12 hd5 τ (zDb g τ k)) (cwV 1 hts gX5_sendCost_X5_sendingCost rfl rfl rfl (by decide +kernel) ⟨Nat.le_of_ble_eq_true rfl, Nat.le_of_ble_eq_true rfl⟩) (z_recM hK hM) hM hK hS (fun _ _ h => h) (fun _ h => h) hl.1 rfl rfl (Nat.le_of_ble_eq_true rfl) dX5_sendCost_55 ⟨Nat.le_refl _, Nat.le_refl _⟩ (fun H locs hM hS _ => ?_)
      exact z_iretE hx hb hr hlk hK hS (zIr_n (by first | assumption | (simp only [c_2, hc_k, eq_self, ne_eq, not_true_eq_false, not_false_eq_true, and_true, true_and, and_self, and_false, false_and, true_or, or_true, false_or, or_false, reduceIte]; done) | (simp [c_2, hc_k]; done) | grind) (zIr_t (by first | assumption | (simp only [c_2, hc_k, eq_self, ne_eq, not_true_eq_false, not_false_eq_true, and_true, true_and, and_self, and_false, false_and, true_or, or_true, false_or, or_false, reduceIte]; done) | (simp [c_2, hc_k]; done) | grind) (by first | rfl | (simp only [c_2, hc_k, eq_self, ne_eq, not_true_eq_false, not_false_eq_true, and_true, true_and, and_self, and_false, false_and, true_or, or_true, false_or, or_false, reduceIte]; done) | (simp [c_2, hc_k]; done)))) (zIf_n (by first | assumption | (simp only [c_2, hc_k, eq_self, ne_eq, not_true_eq_false, not_false_eq_true, and_true, true_and, and_self, and_false, false_and, true_or, or_true, false_or, or_false, reduceIte]; done) | (simp [c_2, hc_k]; done) | grind) (zIf_t (by first | assumption | (simp only [c_2, hc_k, eq_self, ne_eq, not_true_eq_false, not_false_eq_true, and_true, true_and, and_self, and_false, false_and, true_or, or_true, false_or, or_false, reduceIte]; done) | (simp [c_2, hc_k]; done) | grind) (by first | exact hM | (simpa only [c_2, hc_k, eq_self, ne_eq, not_true_eq_false, not_false_eq_true, and_true, true_and, and_self, and_false, false_and, true_or, or_true, false_or, or_false, reduceIte] using hM) | (simpa [c_2, hc_k] using hM)))) dX5_sendCost_58
    · skip
      refine lv_aload_n hx hb dX5_sendCost_19 rfl (lv_at hl 0 rfl) ?_
      refine lv_iload_n hx hb dX5_sendCost_20 rfl (lv_at hl 2 rfl) ?_
      refine z_vi (As := [.int y]) (rest := []) (P2 := zMP G ad (0, cp, hf, nI d, sl, sv) n g τ) (r := zBi (¬ y < 0 ∧ y < nI n)) S (c_X5_isSensor l G A ad (0, cp, hf, nI d, sl, sv) n g hA hn12  τ y) (cwV 1 hts gX5_sendCost_X5_isSensor rfl rfl rfl (by decide +kernel) ⟨Nat.le_of_ble_eq_true rfl, Nat.le_of_ble_eq_true rfl⟩) (z_recM hK hM) hM hK hS (fun _ _ h => h) (fun _ h => h) hl.1 rfl rfl (Nat.le_of_ble_eq_true rfl) dX5_sendCost_21 ⟨Nat.le_refl _, Nat.le_refl _⟩ (fun H locs hM hS _ => ?_)
      refine lv_if_eq (tgt := 32) hx hb dX5_sendCost_24 (by decide) (fun c_5 => ?_) (fun c_6 => ?_)
      · skip
        have c_5 := zBi_0.mp c_5
        refine lv_iconst (v := -1) hx hb dX5_sendCost_32 (by decide) ?_
        exact z_iretE hx hb hr hlk hK hS (zIr_t (by first | assumption | (simp only [c_2, hc_k, c_4, c_5, eq_self, ne_eq, not_true_eq_false, not_false_eq_true, and_true, true_and, and_self, and_false, false_and, true_or, or_true, false_or, or_false, reduceIte]; done) | (simp [c_2, hc_k, c_4, c_5]; done) | grind) (by first | rfl | (simp only [c_2, hc_k, c_4, c_5, eq_self, ne_eq, not_true_eq_false, not_false_eq_true, and_true, true_and, and_self, and_false, false_and, true_or, or_true, false_or, or_false, reduceIte]; done) | (simp [c_2, hc_k, c_4, c_5]; done))) (zIf_t (by first | assumption | (simp only [c_2, hc_k, c_4, c_5, eq_self, ne_eq, not_true_eq_false, not_false_eq_true, and_true, true_and, and_self, and_false, false_and, true_or, or_true, false_or, or_false, reduceIte]; done) | (simp [c_2, hc_k, c_4, c_5]; done) | grind) (by first | exact hM | (simpa only [c_2, hc_k, c_4, c_5, eq_self, ne_eq, not_true_eq_false, not_false_eq_true, and_true, true_and, and_self, and_false, false_and, true_or, or_true, false_or, or_false, reduceIte] using hM) | (simpa [c_2, hc_k, c_4, c_5] using hM))) dX5_sendCost_33
      · skip
        have c_6 := zBi_n0.mp c_6
        obtain ⟨h, hh, rfl⟩ := zIn_of (by omega) c_6
        have hc_h : (nI h).toNatClampNeg = h := nI_clamp (by omega)
        refine lv_iload_n hx hb dX5_sendCost_27 rfl (lv_at hl 1 rfl) ?_
        refine lv_iload_n hx hb dX5_sendCost_28 rfl (lv_at hl 2 rfl) ?_
        refine lv_icmp_ne (tgt := 34) hx hb dX5_sendCost_29 (by decide) (fun c_7 => ?_) (fun c_8 => ?_)
        · skip
          have c_7 := (not_congr (z_eqI (a := k) (b := h) (by omega) (by omega))).mp c_7
          refine lv_aload_n hx hb dX5_sendCost_34 rfl (lv_at hl 0 rfl) ?_
          refine lv_iload_n hx hb dX5_sendCost_35 rfl (lv_at hl 2 rfl) ?_
          refine lv_bipush (v := -9) hx hb dX5_sendCost_36 (by decide) ?_
          refine lv_icmp_ne (tgt := 49) hx hb dX5_sendCost_38 (by decide) (fun _ => ?_) (fun q => absurd q (zOi_lt (by omega))) 
          refine lv_aload_n hx hb dX5_sendCost_49 rfl (lv_at hl 0 rfl) ?_
          refine lv_iload_n hx hb dX5_sendCost_50 rfl (lv_at hl 1 rfl) ?_
          refine lv_iload_n hx hb dX5_sendCost_51 rfl (lv_at hl 2 rfl) ?_
          refine z_vi (As := [.int (nI k), .int (nI h)]) (rest := [.ref (ad 0)]) (P2 := zMP G ad (0, cp, hf, nI d, sl, sv) n g τ) (r := zDs τ k h) S (c_X5_distance l G A ad (0, cp, hf, nI d, sl, sv) n g hA hn12  τ k h (by omega) (by omega)) (cwV 2 hts gX5_sendCost_X5_distance rfl rfl rfl (by decide +kernel) ⟨Nat.le_of_ble_eq_true rfl, Nat.le_of_ble_eq_true rfl⟩) (z_recM hK hM) hM hK hS (fun _ _ h => h) (fun _ h => h) hl.1 rfl rfl (Nat.le_of_ble_eq_true rfl) dX5_sendCost_52 ⟨Nat.le_refl _, Nat.le_refl _⟩ (fun H locs hM hS _ => ?_)
          refine z_vi (As := [.int (zDs τ k h)]) (rest := []) (P2 := zMP G ad (0, cp, hf, nI d, sl, sv) n g τ) (r := zCo g (zDs τ k h)) S (c_X5_sendingCost l G A ad (0, cp, hf, nI d, sl, sv) n g hA hn12 hd5 τ (zDs τ k h)) (cwV 1 hts gX5_sendCost_X5_sendingCost rfl rfl rfl (by decide +kernel) ⟨Nat.le_of_ble_eq_true rfl, Nat.le_of_ble_eq_true rfl⟩) (z_recM hK hM) hM hK hS (fun _ _ h => h) (fun _ h => h) hl.1 rfl rfl (Nat.le_of_ble_eq_true rfl) dX5_sendCost_55 ⟨Nat.le_refl _, Nat.le_refl _⟩ (fun H locs hM hS _ => ?_)
          exact z_iretE hx hb hr hlk hK hS (zIr_n (by first | assumption | (simp only [c_2, hc_k, c_4, c_6, hc_h, c_7, eq_self, ne_eq, not_true_eq_false, not_false_eq_true, and_true, true_and, and_self, and_false, false_and, true_or, or_true, false_or, or_false, reduceIte]; done) | (simp [c_2, hc_k, c_4, c_6, hc_h, c_7]; done) | grind) (zIr_n (by first | assumption | (simp only [c_2, hc_k, c_4, c_6, hc_h, c_7, eq_self, ne_eq, not_true_eq_false, not_false_eq_true, and_true, true_and, and_self, and_false, false_and, true_or, or_true, false_or, or_false, reduceIte]; done) | (simp [c_2, hc_k, c_4, c_6, hc_h, c_7]; done) | grind) (by first | rfl | (simp only [c_2, hc_k, c_4, c_6, hc_h, c_7, eq_self, ne_eq, not_true_eq_false, not_false_eq_true, and_true, true_and, and_self, and_false, false_and, true_or, or_true, false_or, or_false, reduceIte]; done) | (simp [c_2, hc_k, c_4, c_6, hc_h, c_7]; done)))) (zIf_n (by first | assumption | (simp only [c_2, hc_k, c_4, c_6, hc_h, c_7, eq_self, ne_eq, not_true_eq_false, not_false_eq_true, and_true, true_and, and_self, and_false, false_and, true_or, or_true, false_or, or_false, reduceIte]; done) | (simp [c_2, hc_k, c_4, c_6, hc_h, c_7]; done) | grind) (zIf_n (by first | assumption | (simp only [c_2, hc_k, c_4, c_6, hc_h, c_7, eq_self, ne_eq, not_true_eq_false, not_false_eq_true, and_true, true_and, and_self, and_false, false_and, true_or, or_true, false_or, or_false, reduceIte]; done) | (simp [c_2, hc_k, c_4, c_6, hc_h, c_7]; done) | grind) (by first | exact hM | (simpa only [c_2, hc_k, c_4, c_6, hc_h, c_7, eq_self, ne_eq, not_true_eq_false, not_false_eq_true, and_true, true_and, and_self, and_false, false_and, true_or, or_true, false_or, or_false, reduceIte] using hM) | (simpa [c_2, hc_k, c_4, c_6, hc_h, c_7] using hM)))) dX5_sendCost_58
        · skip
          have c_8 := (z_eqI (a := k) (b := h) (by omega) (by omega)).mp c_8
          refine lv_iconst (v := -1) hx hb dX5_sendCost_32 (by decide) ?_
          exact z_iretE hx hb hr hlk hK hS (zIr_t (by first | assumption | (simp only [c_2, hc_k, c_4, c_6, hc_h, c_8, eq_self, ne_eq, not_true_eq_false, not_false_eq_true, and_true, true_and, and_self, and_false, false_and, true_or, or_true, false_or, or_false, reduceIte]; done) | (simp [c_2, hc_k, c_4, c_6, hc_h, c_8]; done) | grind) (by first | rfl | (simp only [c_2, hc_k, c_4, c_6, hc_h, c_8, eq_self, ne_eq, not_true_eq_false, not_false_eq_true, and_true, true_and, and_self, and_false, false_and, true_or, or_true, false_or, or_false, reduceIte]; done) | (simp [c_2, hc_k, c_4, c_6, hc_h, c_8]; done))) (zIf_t (by first | assumption | (simp only [c_2, hc_k, c_4, c_6, hc_h, c_8, eq_self, ne_eq, not_true_eq_false, not_false_eq_true, and_true, true_and, and_self, and_false, false_and, true_or, or_true, false_or, or_false, reduceIte]; done) | (simp [c_2, hc_k, c_4, c_6, hc_h, c_8]; done) | grind) (by first | exact hM | (simpa only [c_2, hc_k, c_4, c_6, hc_h, c_8, eq_self, ne_eq, not_true_eq_false, not_false_eq_true, and_true, true_and, and_self, and_false, false_and, true_or, or_true, false_or, or_false, reduceIte] using hM) | (simpa [c_2, hc_k, c_4, c_6, hc_h, c_8] using hM))) dX5_sendCost_33

theorem in_X5_forecastDeath_X5 : ∀ w ∈ wsX50, w ∈ wsX5_forecastDeath := by decide +kernel
set_option maxHeartbeats 4000000 in
set_option maxRecDepth 100000 in
theorem p_X5_forecastDeath (l : Launch) (G : zG) (A : Nat → Prop) (ad : Nat → Nat) (hA : zAm G ad A) (th : Int32) (cp hf : Nat → Int32) (d : Nat) (hd : d ≤ 6) (sl sv : Nat → Int32) (n : Nat) (hn12 : n ≤ 12) (g : Nat → Int32) (hd3 : 0 < g 3) (hd5 : 0 < g 5) (τ : zT) (x r : Int32) : zMi l G A yX5_forecastDeath wsX5_forecastDeath 7 158 [.ref (ad 0), .int x, .int r] (zMP G ad (th, cp, hf, nI d, sl, sv) n g τ) (if ¬ ((¬ x < 0 ∧ x < nI n) ∧ (¬ r < 1 ∧ ¬ 300 < r)) then -1 else (if ¬ τ 3 x.toNatClampNeg = 1 then -2 else (zPm n g r.toNatClampNeg τ).2 6 x.toNatClampNeg)) (if ¬ ((¬ x < 0 ∧ x < nI n) ∧ (¬ r < 1 ∧ ¬ 300 < r)) then (zMP G ad (0, cp, hf, nI d, sl, sv) n g τ) else (if ¬ τ 3 x.toNatClampNeg = 1 then (zMP G ad (0, cp, hf, nI d, sl, sv) n g τ) else (zMP G ad (0, (va_cpy (zMA n g τ) cp 0 0 123), hf, nI d, sl, sv) n g (zMx τ (zPm n g r.toNatClampNeg τ).2)))) := by
  refine z_met (cc := cX5_forecastDeath) (maxL := 4) (ret := (some .int)) (by decide) rfl (Nat.le_of_ble_eq_true rfl) ?_
  intro p e s m below meth c ls S hr hlk hnm hM hK hl
  have S : CallFix p m c cX5_forecastDeath 4 s _ wsX5_forecastDeath RX5 := S
  obtain ⟨hx, hb, hml, hown, hts⟩ := id S
  have hS : va_S A s.heap s.heap [] := va_S.rf
  have hl : lv_has ls 4 [(0, .ref (ad 0)), (1, .int x), (2, .int r)] := hl
  refine lv_aload_n hx hb dX5_forecastDeath_0 rfl (lv_at hl 0 rfl) ?_
  refine lv_iconst (v := 0) hx hb dX5_forecastDeath_1 (by decide) ?_
  refine z_putM (w := 0) hx hb hts hown in_X5_forecastDeath_X5 hK hA hS hM 0 (by decide) rfl (hts _ (List.mem_of_getElem? (i := 1) (by decide +kernel))) (by decide +kernel) rfl (0, cp, hf, nI d, sl, sv) rfl ⟨rfl, rfl, rfl⟩ dX5_forecastDeath_2 (fun H locs hM hS => ?_)
  have hM : zMP G ad (0, cp, hf, nI d, sl, sv) n g τ H := hM
  refine lv_aload_n hx hb dX5_forecastDeath_5 rfl (lv_at hl 0 rfl) ?_
  refine lv_iload_n hx hb dX5_forecastDeath_6 rfl (lv_at hl 1 rfl) ?_
  refine z_vi (As := [.int x]) (rest := []) (P2 := zMP G ad (0, cp, hf, nI d, sl, sv) n g τ) (r := zBi (¬ x < 0 ∧ x < nI n)) S (c_X5_isSensor l G A ad (0, cp, hf, nI d, sl, sv) n g hA hn12  τ x) (cwV 1 hts gX5_forecastDeath_X5_isSensor rfl rfl rfl (by decide +kernel) ⟨Nat.le_of_ble_eq_true rfl, Nat.le_of_ble_eq_true rfl⟩) (z_recM hK hM) hM hK hS (fun _ _ h => h) (fun _ h => h) hl.1 rfl rfl (Nat.le_of_ble_eq_true rfl) dX5_forecastDeath_7 ⟨Nat.le_refl _, Nat.le_refl _⟩ (fun H locs hM hS _ => ?_)
  refine lv_if_eq (tgt := 24) hx hb dX5_forecastDeath_10 (by decide) (fun c_1 => ?_) (fun c_2 => ?_)
  · skip
    have c_1 := zBi_0.mp c_1
    refine lv_iconst (v := -1) hx hb dX5_forecastDeath_24 (by decide) ?_
    exact z_iretE hx hb hr hlk hK hS (zIr_t (by first | assumption | (simp only [c_1, eq_self, ne_eq, not_true_eq_false, not_false_eq_true, and_true, true_and, and_self, and_false, false_and, true_or, or_true, false_or, or_false, reduceIte]; done) | (simp [c_1]; done) | grind) (by first | rfl | (simp only [c_1, eq_self, ne_eq, not_true_eq_false, not_false_eq_true, and_true, true_and, and_self, and_false, false_and, true_or, or_true, false_or, or_false, reduceIte]; done) | (simp [c_1]; done))) (zIf_t (by first | assumption | (simp only [c_1, eq_self, ne_eq, not_true_eq_false, not_false_eq_true, and_true, true_and, and_self, and_false, false_and, true_or, or_true, false_or, or_false, reduceIte]; done) | (simp [c_1]; done) | grind) (by first | exact hM | (simpa only [c_1, eq_self, ne_eq, not_true_eq_false, not_false_eq_true, and_true, true_and, and_self, and_false, false_and, true_or, or_true, false_or, or_false, reduceIte] using hM) | (simpa [c_1] using hM))) dX5_forecastDeath_25
  · skip
    have c_2 := zBi_n0.mp c_2
    obtain ⟨k, hk, rfl⟩ := zIn_of (by omega) c_2
    have hc_k : (nI k).toNatClampNeg = k := nI_clamp (by omega)
    refine lv_iload_n hx hb dX5_forecastDeath_13 rfl (lv_at hl 2 rfl) ?_
    refine lv_iconst (v := 1) hx hb dX5_forecastDeath_14 (by decide) ?_
    refine lv_sipush (v := 300) hx hb dX5_forecastDeath_15 (by decide) ?_
    refine z_si (As := [.int r, .int 1, .int 300]) (rest := []) (P2 := zMP G ad (0, cp, hf, nI d, sl, sv) n g τ) (r := zBi (¬ r < 1 ∧ ¬ 300 < r)) S (c_X5_in l G A (zMP G ad (0, cp, hf, nI d, sl, sv) n g τ) r 1 300) (cwS 3 hts gX5_forecastDeath_X5_in rfl rfl rfl (by decide +kernel) ⟨Nat.le_of_ble_eq_true rfl, Nat.le_of_ble_eq_true rfl⟩) hM hK hS (fun _ _ h => h) (fun _ h => h) hl.1 rfl rfl (Nat.le_of_ble_eq_true rfl) dX5_forecastDeath_18 ⟨Nat.le_refl _, Nat.le_refl _⟩ (fun H locs hM hS _ => ?_)
    refine lv_if_ne (tgt := 26) hx hb dX5_forecastDeath_21 (by decide) (fun c_3 => ?_) (fun c_4 => ?_)
    · skip
      have c_3 := zBi_n0.mp c_3
      obtain ⟨lim, hlim1, hlim2, rfl⟩ := zLe_of (a := 1) (b := 300) (by omega) (by omega) c_3
      have hc_lim : (nI lim).toNatClampNeg = lim := nI_clamp (by omega)
      refine lv_aload_n hx hb dX5_forecastDeath_26 rfl (lv_at hl 0 rfl) ?_
      refine lv_iload_n hx hb dX5_forecastDeath_27 rfl (lv_at hl 1 rfl) ?_
      refine z_vi (As := [.int (nI k)]) (rest := []) (P2 := zMP G ad (0, cp, hf, nI d, sl, sv) n g τ) (r := zBi (τ 3 k = 1)) S (c_X5_lives l G A ad (0, cp, hf, nI d, sl, sv) n g hA hn12  τ k (by omega)) (cwV 1 hts gX5_forecastDeath_X5_lives rfl rfl rfl (by decide +kernel) ⟨Nat.le_of_ble_eq_true rfl, Nat.le_of_ble_eq_true rfl⟩) (z_recM hK hM) hM hK hS (fun _ _ h => h) (fun _ h => h) hl.1 rfl rfl (Nat.le_of_ble_eq_true rfl) dX5_forecastDeath_28 ⟨Nat.le_refl _, Nat.le_refl _⟩ (fun H locs hM hS _ => ?_)
      refine lv_if_ne (tgt := 37) hx hb dX5_forecastDeath_31 (by decide) (fun c_5 => ?_) (fun c_6 => ?_)
      · skip
        have c_5 := zBi_n0.mp c_5
        refine lv_aload_n hx hb dX5_forecastDeath_37 rfl (lv_at hl 0 rfl) ?_
        refine z_vv (As := []) (rest := []) (P2 := zMP G ad (0, (va_cpy (zMA n g τ) cp 0 0 123), hf, nI d, sl, sv) n g τ) S (r_X5_takeCopy l G A ad hA 0 cp hf d hd sl sv (zMA n g τ) (zEr τ) (τ 9)) (cwV 0 hts gX5_forecastDeath_X5_takeCopy rfl rfl rfl (by decide +kernel) ⟨Nat.le_of_ble_eq_true rfl, Nat.le_of_ble_eq_true rfl⟩) (z_recM hK hM) hM hK hS (fun _ _ h => h) (fun _ h => h) hl.1 rfl rfl (Nat.le_of_ble_eq_true rfl) dX5_forecastDeath_38 ⟨Nat.le_refl _, Nat.le_refl _⟩ (fun H locs hM hS _ => ?_)
        refine lv_aload_n hx hb dX5_forecastDeath_41 rfl (lv_at hl 0 rfl) ?_
        refine lv_iload_n hx hb dX5_forecastDeath_42 rfl (lv_at hl 2 rfl) ?_
        refine z_vi (As := [.int (nI lim)]) (rest := []) (P2 := zMP G ad (0, (va_cpy (zMA n g τ) cp 0 0 123), hf, nI d, sl, sv) n g ((zPm n g lim τ).2)) (r := nI (zPm n g lim τ).1) S (c_X5_performMany l G A ad (0, (va_cpy (zMA n g τ) cp 0 0 123), hf, nI d, sl, sv) n g hA hn12 hd3 hd5 τ lim (by omega)) (cwV 1 hts gX5_forecastDeath_X5_performMany rfl rfl rfl (by decide +kernel) ⟨Nat.le_of_ble_eq_true rfl, Nat.le_of_ble_eq_true rfl⟩) (z_recM hK hM) hM hK hS (fun _ _ h => h) (fun _ h => h) hl.1 rfl rfl (Nat.le_of_ble_eq_true rfl) dX5_forecastDeath_43 ⟨Nat.le_refl _, Nat.le_refl _⟩ (fun H locs hM hS _ => ?_)
        refine lv_pop hx hb dX5_forecastDeath_46 rfl ?_
        refine lv_aload_n hx hb dX5_forecastDeath_47 rfl (lv_at hl 0 rfl) ?_
        refine lv_iload_n hx hb dX5_forecastDeath_48 rfl (lv_at hl 1 rfl) ?_
        refine lv_bipush (v := 6) hx hb dX5_forecastDeath_49 (by decide) ?_
        refine z_vi (As := [.int (nI k), .int 6]) (rest := []) (P2 := zMP G ad (0, (va_cpy (zMA n g τ) cp 0 0 123), hf, nI d, sl, sv) n g ((zPm n g lim τ).2)) (r := ((zPm n g lim τ).2) 6 k) S (c_X5_of l G A ad (0, (va_cpy (zMA n g τ) cp 0 0 123), hf, nI d, sl, sv) n g hA hn12  ((zPm n g lim τ).2) k 6 (by omega) (by omega)) (cwV 2 hts gX5_forecastDeath_X5_of rfl rfl rfl (by decide +kernel) ⟨Nat.le_of_ble_eq_true rfl, Nat.le_of_ble_eq_true rfl⟩) (z_recM hK hM) hM hK hS (fun _ _ h => h) (fun _ h => h) hl.1 rfl rfl (Nat.le_of_ble_eq_true rfl) dX5_forecastDeath_51 ⟨Nat.le_refl _, Nat.le_refl _⟩ (fun H locs hM hS _ => ?_)
        refine lv_istore_n (lv' := [(3, .int (((zPm n g lim τ).2) 6 k)), (0, .ref (ad 0)), (1, .int (nI k)), (2, .int (nI lim))]) hx hb dX5_forecastDeath_54 rfl hl (by decide) rfl (fun ls hl => ?_)
        refine lv_aload_n hx hb dX5_forecastDeath_55 rfl (lv_at hl 1 rfl) ?_
        refine z_vv (As := []) (rest := []) (P2 := zMQ G ad (0, (va_cpy (zMA n g τ) cp 0 0 123), hf, nI d, sl, sv) (va_cpy (va_cpy (zMA n g τ) cp 0 0 123) (zMA n g ((zPm n g lim τ).2)) 0 0 123) (zEr ((zPm n g lim τ).2)) (((zPm n g lim τ).2) 9)) S (r_X5_putBack l G A ad hA 0 (va_cpy (zMA n g τ) cp 0 0 123) hf d hd sl sv (zMA n g ((zPm n g lim τ).2)) (zEr ((zPm n g lim τ).2)) (((zPm n g lim τ).2) 9)) (cwV 0 hts gX5_forecastDeath_X5_putBack rfl rfl rfl (by decide +kernel) ⟨Nat.le_of_ble_eq_true rfl, Nat.le_of_ble_eq_true rfl⟩) (z_recM hK hM) hM hK hS (fun _ _ h => h) (fun _ h => h) hl.1 rfl rfl (Nat.le_of_ble_eq_true rfl) dX5_forecastDeath_56 ⟨Nat.le_refl _, Nat.le_refl _⟩ (fun H locs hM hS _ => ?_)
        have hM := hM.toP (n1 := n) (g1 := g) (τ1 := τ) (fun j hj => zCp_rt _ _ _ hj)
        refine lv_iload_n hx hb dX5_forecastDeath_59 rfl (lv_at hl 0 rfl) ?_
        exact z_iretE hx hb hr hlk hK hS (zIr_n (by first | assumption | (simp only [c_2, hc_k, c_3, hc_lim, c_5, eq_self, ne_eq, not_true_eq_false, not_false_eq_true, and_true, true_and, and_self, and_false, false_and, true_or, or_true, false_or, or_false, reduceIte]; done) | (simp [c_2, hc_k, c_3, hc_lim, c_5]; done) | grind) (zIr_n (by first | assumption | (simp only [c_2, hc_k, c_3, hc_lim, c_5, eq_self, ne_eq, not_true_eq_false, not_false_eq_true, and_true, true_and, and_self, and_false, false_and, true_or, or_true, false_or, or_false, reduceIte]; done) | (simp [c_2, hc_k, c_3, hc_lim, c_5]; done) | grind) (by first | rfl | (simp only [c_2, hc_k, c_3, hc_lim, c_5, eq_self, ne_eq, not_true_eq_false, not_false_eq_true, and_true, true_and, and_self, and_false, false_and, true_or, or_true, false_or, or_false, reduceIte]; done) | (simp [c_2, hc_k, c_3, hc_lim, c_5]; done)))) (zIf_n (by first | assumption | (simp only [c_2, hc_k, c_3, hc_lim, c_5, eq_self, ne_eq, not_true_eq_false, not_false_eq_true, and_true, true_and, and_self, and_false, false_and, true_or, or_true, false_or, or_false, reduceIte]; done) | (simp [c_2, hc_k, c_3, hc_lim, c_5]; done) | grind) (zIf_n (by first | assumption | (simp only [c_2, hc_k, c_3, hc_lim, c_5, eq_self, ne_eq, not_true_eq_false, not_false_eq_true, and_true, true_and, and_self, and_false, false_and, true_or, or_true, false_or, or_false, reduceIte]; done) | (simp [c_2, hc_k, c_3, hc_lim, c_5]; done) | grind) (by first | exact hM | (simpa only [c_2, hc_k, c_3, hc_lim, c_5, eq_self, ne_eq, not_true_eq_false, not_false_eq_true, and_true, true_and, and_self, and_false, false_and, true_or, or_true, false_or, or_false, reduceIte] using hM) | (simpa [c_2, hc_k, c_3, hc_lim, c_5] using hM)))) dX5_forecastDeath_60
      · skip
        have c_6 := zBi_0.mp c_6
        refine lv_bipush (v := -2) hx hb dX5_forecastDeath_34 (by decide) ?_
        exact z_iretE hx hb hr hlk hK hS (zIr_n (by first | assumption | (simp only [c_2, hc_k, c_3, hc_lim, c_6, eq_self, ne_eq, not_true_eq_false, not_false_eq_true, and_true, true_and, and_self, and_false, false_and, true_or, or_true, false_or, or_false, reduceIte]; done) | (simp [c_2, hc_k, c_3, hc_lim, c_6]; done) | grind) (zIr_t (by first | assumption | (simp only [c_2, hc_k, c_3, hc_lim, c_6, eq_self, ne_eq, not_true_eq_false, not_false_eq_true, and_true, true_and, and_self, and_false, false_and, true_or, or_true, false_or, or_false, reduceIte]; done) | (simp [c_2, hc_k, c_3, hc_lim, c_6]; done) | grind) (by first | rfl | (simp only [c_2, hc_k, c_3, hc_lim, c_6, eq_self, ne_eq, not_true_eq_false, not_false_eq_true, and_true, true_and, and_self, and_false, false_and, true_or, or_true, false_or, or_false, reduceIte]; done) | (simp [c_2, hc_k, c_3, hc_lim, c_6]; done)))) (zIf_n (by first | assumption | (simp only [c_2, hc_k, c_3, hc_lim, c_6, eq_self, ne_eq, not_true_eq_false, not_false_eq_true, and_true, true_and, and_self, and_false, false_and, true_or, or_true, false_or, or_false, reduceIte]; done) | (simp [c_2, hc_k, c_3, hc_lim, c_6]; done) | grind) (zIf_t (by first | assumption | (simp only [c_2, hc_k, c_3, hc_lim, c_6, eq_self, ne_eq, not_true_eq_false, not_false_eq_true, and_true, true_and, and_self, and_false, false_and, true_or, or_true, false_or, or_false, reduceIte]; done) | (simp [c_2, hc_k, c_3, hc_lim, c_6]; done) | grind) (by first | exact hM | (simpa only [c_2, hc_k, c_3, hc_lim, c_6, eq_self, ne_eq, not_true_eq_false, not_false_eq_true, and_true, true_and, and_self, and_false, false_and, true_or, or_true, false_or, or_false, reduceIte] using hM) | (simpa [c_2, hc_k, c_3, hc_lim, c_6] using hM)))) dX5_forecastDeath_36
    · skip
      have c_4 := zBi_0.mp c_4
      refine lv_iconst (v := -1) hx hb dX5_forecastDeath_24 (by decide) ?_
      exact z_iretE hx hb hr hlk hK hS (zIr_t (by first | assumption | (simp only [c_2, hc_k, c_4, eq_self, ne_eq, not_true_eq_false, not_false_eq_true, and_true, true_and, and_self, and_false, false_and, true_or, or_true, false_or, or_false, reduceIte]; done) | (simp [c_2, hc_k, c_4]; done) | grind) (by first | rfl | (simp only [c_2, hc_k, c_4, eq_self, ne_eq, not_true_eq_false, not_false_eq_true, and_true, true_and, and_self, and_false, false_and, true_or, or_true, false_or, or_false, reduceIte]; done) | (simp [c_2, hc_k, c_4]; done))) (zIf_t (by first | assumption | (simp only [c_2, hc_k, c_4, eq_self, ne_eq, not_true_eq_false, not_false_eq_true, and_true, true_and, and_self, and_false, false_and, true_or, or_true, false_or, or_false, reduceIte]; done) | (simp [c_2, hc_k, c_4]; done) | grind) (by first | exact hM | (simpa only [c_2, hc_k, c_4, eq_self, ne_eq, not_true_eq_false, not_false_eq_true, and_true, true_and, and_self, and_false, false_and, true_or, or_true, false_or, or_false, reduceIte] using hM) | (simpa [c_2, hc_k, c_4] using hM))) dX5_forecastDeath_25

theorem in_X5_forecastDelivered_X5 : ∀ w ∈ wsX50, w ∈ wsX5_forecastDelivered := by decide +kernel
set_option maxHeartbeats 4000000 in
set_option maxRecDepth 100000 in
theorem p_X5_forecastDelivered (l : Launch) (G : zG) (A : Nat → Prop) (ad : Nat → Nat) (hA : zAm G ad A) (th : Int32) (cp hf : Nat → Int32) (d : Nat) (hd : d ≤ 6) (sl sv : Nat → Int32) (n : Nat) (hn12 : n ≤ 12) (g : Nat → Int32) (hd3 : 0 < g 3) (hd5 : 0 < g 5) (τ : zT) (r : Int32) : zMi l G A yX5_forecastDelivered wsX5_forecastDelivered 7 158 [.ref (ad 0), .int r] (zMP G ad (th, cp, hf, nI d, sl, sv) n g τ) (if ¬ (¬ r < 1 ∧ ¬ 300 < r) then -1 else (zPm n g r.toNatClampNeg τ).2 11 13 - τ 11 13) (if ¬ (¬ r < 1 ∧ ¬ 300 < r) then (zMP G ad (0, cp, hf, nI d, sl, sv) n g τ) else (zMP G ad (0, (va_cpy (zMA n g τ) cp 0 0 123), hf, nI d, sl, sv) n g (zMx τ (zPm n g r.toNatClampNeg τ).2))) := by
  refine z_met (cc := cX5_forecastDelivered) (maxL := 3) (ret := (some .int)) (by decide) rfl (Nat.le_of_ble_eq_true rfl) ?_
  intro p e s m below meth c ls S hr hlk hnm hM hK hl
  have S : CallFix p m c cX5_forecastDelivered 3 s _ wsX5_forecastDelivered RX5 := S
  obtain ⟨hx, hb, hml, hown, hts⟩ := id S
  have hS : va_S A s.heap s.heap [] := va_S.rf
  have hl : lv_has ls 3 [(0, .ref (ad 0)), (1, .int r)] := hl
  refine lv_aload_n hx hb dX5_forecastDelivered_0 rfl (lv_at hl 0 rfl) ?_
  refine lv_iconst (v := 0) hx hb dX5_forecastDelivered_1 (by decide) ?_
  refine z_putM (w := 0) hx hb hts hown in_X5_forecastDelivered_X5 hK hA hS hM 0 (by decide) rfl (hts _ (List.mem_of_getElem? (i := 1) (by decide +kernel))) (by decide +kernel) rfl (0, cp, hf, nI d, sl, sv) rfl ⟨rfl, rfl, rfl⟩ dX5_forecastDelivered_2 (fun H locs hM hS => ?_)
  have hM : zMP G ad (0, cp, hf, nI d, sl, sv) n g τ H := hM
  refine lv_iload_n hx hb dX5_forecastDelivered_5 rfl (lv_at hl 1 rfl) ?_
  refine lv_iconst (v := 1) hx hb dX5_forecastDelivered_6 (by decide) ?_
  refine lv_sipush (v := 300) hx hb dX5_forecastDelivered_7 (by decide) ?_
  refine z_si (As := [.int r, .int 1, .int 300]) (rest := []) (P2 := zMP G ad (0, cp, hf, nI d, sl, sv) n g τ) (r := zBi (¬ r < 1 ∧ ¬ 300 < r)) S (c_X5_in l G A (zMP G ad (0, cp, hf, nI d, sl, sv) n g τ) r 1 300) (cwS 3 hts gX5_forecastDelivered_X5_in rfl rfl rfl (by decide +kernel) ⟨Nat.le_of_ble_eq_true rfl, Nat.le_of_ble_eq_true rfl⟩) hM hK hS (fun _ _ h => h) (fun _ h => h) hl.1 rfl rfl (Nat.le_of_ble_eq_true rfl) dX5_forecastDelivered_10 ⟨Nat.le_refl _, Nat.le_refl _⟩ (fun H locs hM hS _ => ?_)
  refine lv_if_ne (tgt := 18) hx hb dX5_forecastDelivered_13 (by decide) (fun c_1 => ?_) (fun c_2 => ?_)
  · skip
    have c_1 := zBi_n0.mp c_1
    obtain ⟨lim, hlim1, hlim2, rfl⟩ := zLe_of (a := 1) (b := 300) (by omega) (by omega) c_1
    have hc_lim : (nI lim).toNatClampNeg = lim := nI_clamp (by omega)
    refine lv_aload_n hx hb dX5_forecastDelivered_18 rfl (lv_at hl 0 rfl) ?_
    refine z_vv (As := []) (rest := []) (P2 := zMP G ad (0, (va_cpy (zMA n g τ) cp 0 0 123), hf, nI d, sl, sv) n g τ) S (r_X5_takeCopy l G A ad hA 0 cp hf d hd sl sv (zMA n g τ) (zEr τ) (τ 9)) (cwV 0 hts gX5_forecastDelivered_X5_takeCopy rfl rfl rfl (by decide +kernel) ⟨Nat.le_of_ble_eq_true rfl, Nat.le_of_ble_eq_true rfl⟩) (z_recM hK hM) hM hK hS (fun _ _ h => h) (fun _ h => h) hl.1 rfl rfl (Nat.le_of_ble_eq_true rfl) dX5_forecastDelivered_19 ⟨Nat.le_refl _, Nat.le_refl _⟩ (fun H locs hM hS _ => ?_)
    refine lv_aload_n hx hb dX5_forecastDelivered_22 rfl (lv_at hl 0 rfl) ?_
    refine lv_iload_n hx hb dX5_forecastDelivered_23 rfl (lv_at hl 1 rfl) ?_
    refine z_vi (As := [.int (nI lim)]) (rest := []) (P2 := zMP G ad (0, (va_cpy (zMA n g τ) cp 0 0 123), hf, nI d, sl, sv) n g ((zPm n g lim τ).2)) (r := nI (zPm n g lim τ).1) S (c_X5_performMany l G A ad (0, (va_cpy (zMA n g τ) cp 0 0 123), hf, nI d, sl, sv) n g hA hn12 hd3 hd5 τ lim (by omega)) (cwV 1 hts gX5_forecastDelivered_X5_performMany rfl rfl rfl (by decide +kernel) ⟨Nat.le_of_ble_eq_true rfl, Nat.le_of_ble_eq_true rfl⟩) (z_recM hK hM) hM hK hS (fun _ _ h => h) (fun _ h => h) hl.1 rfl rfl (Nat.le_of_ble_eq_true rfl) dX5_forecastDelivered_24 ⟨Nat.le_refl _, Nat.le_refl _⟩ (fun H locs hM hS _ => ?_)
    refine lv_pop hx hb dX5_forecastDelivered_27 rfl ?_
    refine lv_aload_n hx hb dX5_forecastDelivered_28 rfl (lv_at hl 0 rfl) ?_
    refine z_getM (v := .ref (ad 1)) hx hb hts hown in_X5_forecastDelivered_X5 hK hM 1 (by decide) rfl (hts _ (List.mem_of_getElem? (i := 2) (by decide +kernel))) rfl dX5_forecastDelivered_29 ?_
    refine lv_bipush (v := 13) hx hb dX5_forecastDelivered_32 (by decide) ?_
    refine z_ldM (w := ((zPm n g lim τ).2) 11 13) hx hb hK hM 1 rfl 13 (by decide) (by decide) (by decide) rfl dX5_forecastDelivered_34 ?_
    refine lv_aload_n hx hb dX5_forecastDelivered_35 rfl (lv_at hl 0 rfl) ?_
    refine z_getM (v := .ref (ad 2)) hx hb hts hown in_X5_forecastDelivered_X5 hK hM 2 (by decide) rfl (hts _ (List.mem_of_getElem? (i := 3) (by decide +kernel))) rfl dX5_forecastDelivered_36 ?_
    refine lv_bipush (v := 13) hx hb dX5_forecastDelivered_39 (by decide) ?_
    refine z_ldM (w := τ 11 13) hx hb hK hM 2 rfl 13 (by decide) (by decide) (by decide) rfl dX5_forecastDelivered_41 ?_
    refine lv_isub hx hb dX5_forecastDelivered_42 ?_
    refine lv_istore_n (lv' := [(2, .int ((((zPm n g lim τ).2) 11 13) - (τ 11 13))), (0, .ref (ad 0)), (1, .int (nI lim))]) hx hb dX5_forecastDelivered_43 rfl hl (by decide) rfl (fun ls hl => ?_)
    refine lv_aload_n hx hb dX5_forecastDelivered_44 rfl (lv_at hl 1 rfl) ?_
    refine z_vv (As := []) (rest := []) (P2 := zMQ G ad (0, (va_cpy (zMA n g τ) cp 0 0 123), hf, nI d, sl, sv) (va_cpy (va_cpy (zMA n g τ) cp 0 0 123) (zMA n g ((zPm n g lim τ).2)) 0 0 123) (zEr ((zPm n g lim τ).2)) (((zPm n g lim τ).2) 9)) S (r_X5_putBack l G A ad hA 0 (va_cpy (zMA n g τ) cp 0 0 123) hf d hd sl sv (zMA n g ((zPm n g lim τ).2)) (zEr ((zPm n g lim τ).2)) (((zPm n g lim τ).2) 9)) (cwV 0 hts gX5_forecastDelivered_X5_putBack rfl rfl rfl (by decide +kernel) ⟨Nat.le_of_ble_eq_true rfl, Nat.le_of_ble_eq_true rfl⟩) (z_recM hK hM) hM hK hS (fun _ _ h => h) (fun _ h => h) hl.1 rfl rfl (Nat.le_of_ble_eq_true rfl) dX5_forecastDelivered_45 ⟨Nat.le_refl _, Nat.le_refl _⟩ (fun H locs hM hS _ => ?_)
    have hM := hM.toP (n1 := n) (g1 := g) (τ1 := τ) (fun j hj => zCp_rt _ _ _ hj)
    refine lv_iload_n hx hb dX5_forecastDelivered_48 rfl (lv_at hl 0 rfl) ?_
    exact z_iretE hx hb hr hlk hK hS (zIr_n (by first | assumption | (simp only [c_1, hc_lim, eq_self, ne_eq, not_true_eq_false, not_false_eq_true, and_true, true_and, and_self, and_false, false_and, true_or, or_true, false_or, or_false, reduceIte]; done) | (simp [c_1, hc_lim]; done) | grind) (by first | rfl | (simp only [c_1, hc_lim, eq_self, ne_eq, not_true_eq_false, not_false_eq_true, and_true, true_and, and_self, and_false, false_and, true_or, or_true, false_or, or_false, reduceIte]; done) | (simp [c_1, hc_lim]; done))) (zIf_n (by first | assumption | (simp only [c_1, hc_lim, eq_self, ne_eq, not_true_eq_false, not_false_eq_true, and_true, true_and, and_self, and_false, false_and, true_or, or_true, false_or, or_false, reduceIte]; done) | (simp [c_1, hc_lim]; done) | grind) (by first | exact hM | (simpa only [c_1, hc_lim, eq_self, ne_eq, not_true_eq_false, not_false_eq_true, and_true, true_and, and_self, and_false, false_and, true_or, or_true, false_or, or_false, reduceIte] using hM) | (simpa [c_1, hc_lim] using hM))) dX5_forecastDelivered_49
  · skip
    have c_2 := zBi_0.mp c_2
    refine lv_iconst (v := -1) hx hb dX5_forecastDelivered_16 (by decide) ?_
    exact z_iretE hx hb hr hlk hK hS (zIr_t (by first | assumption | (simp only [c_2, eq_self, ne_eq, not_true_eq_false, not_false_eq_true, and_true, true_and, and_self, and_false, false_and, true_or, or_true, false_or, or_false, reduceIte]; done) | (simp [c_2]; done) | grind) (by first | rfl | (simp only [c_2, eq_self, ne_eq, not_true_eq_false, not_false_eq_true, and_true, true_and, and_self, and_false, false_and, true_or, or_true, false_or, or_false, reduceIte]; done) | (simp [c_2]; done))) (zIf_t (by first | assumption | (simp only [c_2, eq_self, ne_eq, not_true_eq_false, not_false_eq_true, and_true, true_and, and_self, and_false, false_and, true_or, or_true, false_or, or_false, reduceIte]; done) | (simp [c_2]; done) | grind) (by first | exact hM | (simpa only [c_2, eq_self, ne_eq, not_true_eq_false, not_false_eq_true, and_true, true_and, and_self, and_false, false_and, true_or, or_true, false_or, or_false, reduceIte] using hM) | (simpa [c_2] using hM))) dX5_forecastDelivered_17
