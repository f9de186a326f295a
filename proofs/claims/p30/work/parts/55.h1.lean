/-! rows laid by my own program (wip/whole/gen) -/
theorem in_X0_dropOldest_X0 : ∀ w ∈ wsX00, w ∈ wsX0_dropOldest := by decide +kernel
set_option maxHeartbeats 4000000 in
set_option maxRecDepth 100000 in
theorem h_X0_dropOldest (l : Launch) (G : zG) (ad : Nat → Nat) (na : Nat → Nat → Nat) (ma : Nat → Nat) (hd : zTd ad na ma) (π : Nat → Nat) (hπ : zPi π) (d : Nat) (hd6 : d ≤ 6) (fl : Nat → Int32) (T : Nat → zS3) (n : Nat) (hn12 : n ≤ 12) (g : Nat → Int32) (h6 : d = 6) (τ : zT) : zMv l G (zAll ad na ma) yX0_dropOldest wsX0_dropOldest 0 0 [.ref (ma 3)] (zNA G ad n 12 g (zRest G ad na ma π d fl T) τ) (zNA G ad n 12 g (zRest G ad na ma (zRot π) 5 fl T) τ) := by
  refine z_met (cc := cX0_dropOldest) (maxL := 3) (ret := none) (by decide) rfl (Nat.le_of_ble_eq_true rfl) ?_
  intro p e s m below meth c ls S hr hlk hnm hN hK hl
  have S : CallFix p m c cX0_dropOldest 3 s _ wsX0_dropOldest RX0 := S
  obtain ⟨hx, hb, hml, hown, hts⟩ := id S
  have hN12 : 12 ≤ 12 := Nat.le_refl 12
  have hA := zAp_top (G := G) hd π d fl T
  have hS : va_S (zAll ad na ma) s.heap s.heap [] := va_S.rf
  have hl : lv_has ls 3 [(0, .ref (ma 3))] := hl
  refine lv_aload_n hx hb dX0_dropOldest_0 rfl (lv_at hl 0 rfl) ?_
  refine z_getH (v := .ref (ma 4)) hx hb hts hown in_X0_dropOldest_X0 hK hN 0 (by decide) rfl (hts _ (List.mem_of_getElem? (i := 1) (by decide +kernel))) rfl dX0_dropOldest_1 ?_
  refine lv_iconst (v := 0) hx hb dX0_dropOldest_4 (by decide) ?_
  refine z_aaldV (i := 0) hx hb hK hN (by decide) (by omega) dX0_dropOldest_5 ?_
  refine lv_astore_n (lv' := [(1, .ref (na (π 0) 0)), (0, .ref (ma 3))]) hx hb dX0_dropOldest_6 rfl hl (by decide) rfl (fun ls hl => ?_)
  refine lv_iconst (v := 1) hx hb dX0_dropOldest_7 (by decide) ?_
  refine lv_istore_n (lv' := [(2, .int 1), (1, .ref (na (π 0) 0)), (0, .ref (ma 3))]) hx hb dX0_dropOldest_8 rfl hl (by decide) rfl (fun ls hl => ?_)
  have loop1 : ∀ (f1 i : Nat) (H : Heap) (locs : List Loc) (ls : Array Slot), 1 ≤ i → i ≤ 6 → 6 < i + f1 → zNA G ad n 12 g (zRest G ad na ma (zRo π i) d fl T) τ H → va_S (zAll ad na ma) s.heap H locs → lv_has ls 3 [(2, .int (nI i)), (1, .ref (na (π 0) 0)), (0, .ref (ma 3))] → W p l e ({ frames := 0, cells := 0, slots := 0, locals := 0 } : Room) s m ([.ref (ma 3)] : List Value).toArray below meth c H locs 0 0 (MQ below (zQv G (zNA G ad n 12 g (zRest G ad na ma (zRot π) 5 fl T) τ) (zAll ad na ma)) ([.ref (ma 3)] : List Value).toArray s 0 0 (zAll ad na ma)) (F0 m 9 ls []) := by
    intro f1
    induction f1 with
    | zero => intro i H locs ls hlo h1 h2; exact absurd h2 (by omega)
    | succ f1 ih1 =>
      intro i H locs ls hlo1 hk1 hf1 hN hS hl
      have hbk : i < 6 → 1 ≤ zRo π i i ∧ zRo π i i < 10 := fun h => zRo_b hπ h
      generalize hF_πk : zRo π i = πk at hN hl hbk
      have hA := zAp_top (G := G) hd πk d fl T
      refine lv_iload_n hx hb dX0_dropOldest_9 rfl (lv_at hl 0 rfl) ?_
      refine lv_bipush (v := 6) hx hb dX0_dropOldest_10 (by decide) ?_
      refine lv_icmp_ge (tgt := 35) hx hb dX0_dropOldest_12 (by decide) (fun c_1 => ?_) (fun c_2 => ?_)
      · skip
        have c_1 := (z_leI (a := 6) (b := i) (by omega) (by omega)).mp c_1
        have hkn1 : i = 6 := by omega
        rw [hkn1] at hF_πk
        subst hF_πk
        refine lv_aload_n hx hb dX0_dropOldest_35 rfl (lv_at hl 2 rfl) ?_
        refine z_getH (v := .ref (ma 4)) hx hb hts hown in_X0_dropOldest_X0 hK hN 0 (by decide) rfl (hts _ (List.mem_of_getElem? (i := 1) (by decide +kernel))) rfl dX0_dropOldest_36 ?_
        refine lv_iconst (v := 5) hx hb dX0_dropOldest_39 (by decide) ?_
        refine lv_aload_n hx hb dX0_dropOldest_40 rfl (lv_at hl 1 rfl) ?_
        refine z_aastV (i := 5) (j := (π 0)) hx hb hK hA hS hN (by decide) (by omega) (by have := hπ.1 0 (by omega); omega) (by have := hπ.1 0 (by omega); omega) dX0_dropOldest_41 (fun H locs hN hS => ?_)
        have hA := zAp_top (G := G) hd (va_up (zRo π 6) 5 (π 0)) d fl T
        refine lv_aload_n hx hb dX0_dropOldest_42 rfl (lv_at hl 2 rfl) ?_
        refine lv_iconst (v := 5) hx hb dX0_dropOldest_43 (by decide) ?_
        refine z_putH (w := 5) hx hb hts hown in_X0_dropOldest_X0 hK hA hS hN (hts _ (List.mem_of_getElem? (i := 2) (by decide +kernel))) 5 (by decide) dX0_dropOldest_44 (fun H locs hN hS => ?_)
        have hA := zAp_top (G := G) hd (va_up (zRo π 6) 5 (π 0)) 5 fl T
        exact z_vret hx hb hr hlk hK hS (hN) dX0_dropOldest_47
      · skip
        have c_2 := (not_congr (z_leI (a := 6) (b := i) (by omega) (by omega))).mp c_2
        refine lv_aload_n hx hb dX0_dropOldest_15 rfl (lv_at hl 2 rfl) ?_
        refine z_getH (v := .ref (ma 4)) hx hb hts hown in_X0_dropOldest_X0 hK hN 0 (by decide) rfl (hts _ (List.mem_of_getElem? (i := 1) (by decide +kernel))) rfl dX0_dropOldest_16 ?_
        refine lv_iload_n hx hb dX0_dropOldest_19 rfl (lv_at hl 0 rfl) ?_
        refine lv_iconst (v := 1) hx hb dX0_dropOldest_20 (by decide) ?_
        refine lv_isub hx hb dX0_dropOldest_21 ?_
        refine z_top (x2 := nI (i - 1)) (pk_sub (a := i) (b := 1) (by omega)) ?_
        refine lv_aload_n hx hb dX0_dropOldest_22 rfl (lv_at hl 2 rfl) ?_
        refine z_getH (v := .ref (ma 4)) hx hb hts hown in_X0_dropOldest_X0 hK hN 0 (by decide) rfl (hts _ (List.mem_of_getElem? (i := 1) (by decide +kernel))) rfl dX0_dropOldest_23 ?_
        refine lv_iload_n hx hb dX0_dropOldest_26 rfl (lv_at hl 0 rfl) ?_
        refine z_aaldV (i := i) hx hb hK hN rfl (by omega) dX0_dropOldest_27 ?_
        refine z_aastV (i := (i - 1)) (j := (πk i)) hx hb hK hA hS hN rfl (by omega) (hbk (by omega)).1 (hbk (by omega)).2 dX0_dropOldest_28 (fun H locs hN hS => ?_)
        have hA := zAp_top (G := G) hd (va_up πk (i - 1) (πk i)) d fl T
        refine lv_iinc (v := nI (i + 1)) (lv' := [(2, .int (nI (i + 1))), (1, .ref (na (π 0) 0)), (0, .ref (ma 3))]) hx hb dX0_dropOldest_29 hl (k := 0) rfl (nI_1 _) (by decide) rfl (fun ls hl => ?_)
        refine lv_goto (tgt := 9) hx hb dX0_dropOldest_32 (by decide) ?_
        have e_i : (va_up πk (i - 1) (πk i)) = zRo π (i + 1) := by rw [← hF_πk]; exact zRo_s π (by omega)
        refine ih1 (i + 1) _ _ _ (by omega) (by omega) (by omega) (by rw [← e_i]; exact hN) hS (lv_sub hl [0, 1, 2] rfl)
  exact loop1 (6 + 1) 1 _ _ _ (by omega) (by omega) (by omega) (by rw [zRo_1]; exact hN) hS (lv_sub hl [0, 1, 2] rfl)

theorem in_X0_push_X0 : ∀ w ∈ wsX00, w ∈ wsX0_push := by decide +kernel
set_option maxHeartbeats 4000000 in
set_option maxRecDepth 100000 in
theorem h_X0_push (l : Launch) (G : zG) (ad : Nat → Nat) (na : Nat → Nat → Nat) (ma : Nat → Nat) (hd : zTd ad na ma) (π : Nat → Nat) (hπ : zPi π) (d : Nat) (hd6 : d ≤ 6) (fl : Nat → Int32) (T : Nat → zS3) (n : Nat) (hn12 : n ≤ 12) (g : Nat → Int32) (τ : zT) : zMv l G (zAll ad na ma) yX0_push wsX0_push 2 43 [.ref (ma 3), .ref (ad 0)] (zNA G ad n 12 g (zRest G ad na ma π d fl T) τ) (zNA G ad n 12 g (zRest G ad na ma (zPp d π) (zPd2 d + 1) fl (va_up T ((zPp d π) (zPd2 d)) (zCpy n g τ (T ((zPp d π) (zPd2 d)))))) τ) := by
  refine z_met (cc := cX0_push) (maxL := 2) (ret := none) (by decide) rfl (Nat.le_of_ble_eq_true rfl) ?_
  intro p e s m below meth c ls S hr hlk hnm hN hK hl
  have S : CallFix p m c cX0_push 2 s _ wsX0_push RX0 := S
  obtain ⟨hx, hb, hml, hown, hts⟩ := id S
  have hN12 : 12 ≤ 12 := Nat.le_refl 12
  have hA := zAp_top (G := G) hd π d fl T
  have hS : va_S (zAll ad na ma) s.heap s.heap [] := va_S.rf
  have hl : lv_has ls 2 [(0, .ref (ma 3)), (1, .ref (ad 0))] := hl
  refine lv_aload_n hx hb dX0_push_0 rfl (lv_at hl 0 rfl) ?_
  refine z_getH (v := .int (nI d)) hx hb hts hown in_X0_push_X0 hK hN 1 (by decide) rfl (hts _ (List.mem_of_getElem? (i := 1) (by decide +kernel))) rfl dX0_push_1 ?_
  refine lv_bipush (v := 6) hx hb dX0_push_4 (by decide) ?_
  refine lv_icmp_lt (tgt := 13) hx hb dX0_push_6 (by decide) (fun c_1 => ?_) (fun c_2 => ?_)
  · skip
    have c_1 := (z_ltI (a := d) (b := 6) (by omega) (by omega)).mp c_1
    refine lv_aload_n hx hb dX0_push_13 rfl (lv_at hl 0 rfl) ?_
    refine z_getH (v := .ref (ma 4)) hx hb hts hown in_X0_push_X0 hK hN 0 (by decide) rfl (hts _ (List.mem_of_getElem? (i := 2) (by decide +kernel))) rfl dX0_push_14 ?_
    refine lv_aload_n hx hb dX0_push_17 rfl (lv_at hl 0 rfl) ?_
    refine z_getH (v := .int (nI d)) hx hb hts hown in_X0_push_X0 hK hN 1 (by decide) rfl (hts _ (List.mem_of_getElem? (i := 1) (by decide +kernel))) rfl dX0_push_18 ?_
    refine z_aaldV (i := d) hx hb hK hN rfl (by omega) dX0_push_21 ?_
    refine lv_aload_n hx hb dX0_push_22 rfl (lv_at hl 1 rfl) ?_
    refine z_vv (As := [.ref (ad 0)]) (rest := []) (P2 := zNA G ad n 12 g (zRest G ad na ma π d fl (va_up T (π d) (zCpy n g τ (T (π d))))) τ) S (t_copy_j hd π d fl T n hn12 g τ (by have := (hπ).1 d (by omega); omega) (by have := (hπ).1 d (by omega); omega)) (cwV 1 hts gX0_push_X1_copyFrom rfl rfl rfl (by decide +kernel) ⟨Nat.le_of_ble_eq_true rfl, Nat.le_of_ble_eq_true rfl⟩) (z_recJ hK hN (by have := (hπ).1 d (by omega); omega) (by have := (hπ).1 d (by omega); omega)) hN hK hS (fun _ _ h => h) (fun _ h => h) hl.1 rfl rfl (Nat.le_of_ble_eq_true rfl) dX0_push_23 ⟨Nat.le_refl _, Nat.le_refl _⟩ (fun H locs hN hS _ => ?_)
    have hA := zAp_top (G := G) hd π d fl (va_up T (π d) (zCpy n g τ (T (π d))))
    refine lv_aload_n hx hb dX0_push_26 rfl (lv_at hl 0 rfl) ?_
    refine lv_dup hx hb dX0_push_27 rfl ?_
    refine z_getH (v := .int (nI d)) hx hb hts hown in_X0_push_X0 hK hN 1 (by decide) rfl (hts _ (List.mem_of_getElem? (i := 1) (by decide +kernel))) rfl dX0_push_28 ?_
    refine lv_iconst (v := 1) hx hb dX0_push_31 (by decide) ?_
    refine lv_iadd hx hb dX0_push_32 ?_
    refine z_top (x2 := nI (d + 1)) (nI_add d 1) ?_
    refine z_putH (w := nI (d + 1)) hx hb hts hown in_X0_push_X0 hK hA hS hN (hts _ (List.mem_of_getElem? (i := 1) (by decide +kernel))) (d + 1) rfl dX0_push_33 (fun H locs hN hS => ?_)
    have hA := zAp_top (G := G) hd π (d + 1) fl (va_up T (π d) (zCpy n g τ (T (π d))))
    exact z_vret hx hb hr hlk hK hS ((by have hN2 := hN; simp only [zPp, zPd2, c_1, if_true, if_false] at hN2 ⊢; exact hN2)) dX0_push_36
  · skip
    have c_2 := (not_congr (z_ltI (a := d) (b := 6) (by omega) (by omega))).mp c_2
    refine lv_aload_n hx hb dX0_push_9 rfl (lv_at hl 0 rfl) ?_
    refine z_vv (As := []) (rest := []) (P2 := zNA G ad n 12 g (zRest G ad na ma (zRot π) 5 fl T) τ) S (h_X0_dropOldest l G ad na ma hd π hπ d (by omega) fl T n hn12 g (by omega) τ) (cwV 0 hts gX0_push_X0_dropOldest rfl rfl rfl (by decide +kernel) ⟨Nat.le_of_ble_eq_true rfl, Nat.le_of_ble_eq_true rfl⟩) (z_recH hK hN) hN hK hS (fun _ _ h => h) (fun _ h => h) hl.1 rfl rfl (Nat.le_of_ble_eq_true rfl) dX0_push_10 ⟨Nat.le_refl _, Nat.le_refl _⟩ (fun H locs hN hS _ => ?_)
    have hA := zAp_top (G := G) hd (zRot π) 5 fl T
    refine lv_aload_n hx hb dX0_push_13 rfl (lv_at hl 0 rfl) ?_
    refine z_getH (v := .ref (ma 4)) hx hb hts hown in_X0_push_X0 hK hN 0 (by decide) rfl (hts _ (List.mem_of_getElem? (i := 2) (by decide +kernel))) rfl dX0_push_14 ?_
    refine lv_aload_n hx hb dX0_push_17 rfl (lv_at hl 0 rfl) ?_
    refine z_getH (v := .int (nI 5)) hx hb hts hown in_X0_push_X0 hK hN 1 (by decide) rfl (hts _ (List.mem_of_getElem? (i := 1) (by decide +kernel))) rfl dX0_push_18 ?_
    refine z_aaldV (i := 5) hx hb hK hN rfl (by omega) dX0_push_21 ?_
    refine lv_aload_n hx hb dX0_push_22 rfl (lv_at hl 1 rfl) ?_
    refine z_vv (As := [.ref (ad 0)]) (rest := []) (P2 := zNA G ad n 12 g (zRest G ad na ma (zRot π) 5 fl (va_up T ((zRot π) 5) (zCpy n g τ (T ((zRot π) 5))))) τ) S (t_copy_j hd (zRot π) 5 fl T n hn12 g τ (by have := (zRot_pi hπ).1 5 (by omega); omega) (by have := (zRot_pi hπ).1 5 (by omega); omega)) (cwV 1 hts gX0_push_X1_copyFrom rfl rfl rfl (by decide +kernel) ⟨Nat.le_of_ble_eq_true rfl, Nat.le_of_ble_eq_true rfl⟩) (z_recJ hK hN (by have := (zRot_pi hπ).1 5 (by omega); omega) (by have := (zRot_pi hπ).1 5 (by omega); omega)) hN hK hS (fun _ _ h => h) (fun _ h => h) hl.1 rfl rfl (Nat.le_of_ble_eq_true rfl) dX0_push_23 ⟨Nat.le_refl _, Nat.le_refl _⟩ (fun H locs hN hS _ => ?_)
    have hA := zAp_top (G := G) hd (zRot π) 5 fl (va_up T ((zRot π) 5) (zCpy n g τ (T ((zRot π) 5))))
    refine lv_aload_n hx hb dX0_push_26 rfl (lv_at hl 0 rfl) ?_
    refine lv_dup hx hb dX0_push_27 rfl ?_
    refine z_getH (v := .int (nI 5)) hx hb hts hown in_X0_push_X0 hK hN 1 (by decide) rfl (hts _ (List.mem_of_getElem? (i := 1) (by decide +kernel))) rfl dX0_push_28 ?_
    refine lv_iconst (v := 1) hx hb dX0_push_31 (by decide) ?_
    refine lv_iadd hx hb dX0_push_32 ?_
    refine z_top (x2 := nI (5 + 1)) (nI_add 5 1) ?_
    refine z_putH (w := nI (5 + 1)) hx hb hts hown in_X0_push_X0 hK hA hS hN (hts _ (List.mem_of_getElem? (i := 1) (by decide +kernel))) (5 + 1) rfl dX0_push_33 (fun H locs hN hS => ?_)
    have hA := zAp_top (G := G) hd (zRot π) (5 + 1) fl (va_up T ((zRot π) 5) (zCpy n g τ (T ((zRot π) 5))))
    exact z_vret hx hb hr hlk hK hS ((by have hN2 := hN; simp only [zPp, zPd2, c_2, if_true, if_false] at hN2 ⊢; exact hN2)) dX0_push_36

theorem in_X0_popInto_X0 : ∀ w ∈ wsX00, w ∈ wsX0_popInto := by decide +kernel
set_option maxHeartbeats 4000000 in
set_option maxRecDepth 100000 in
theorem h_X0_popInto (l : Launch) (G : zG) (ad : Nat → Nat) (na : Nat → Nat → Nat) (ma : Nat → Nat) (hd : zTd ad na ma) (π : Nat → Nat) (hπ : zPi π) (d : Nat) (hd6 : d ≤ 6) (fl : Nat → Int32) (T : Nat → zS3) (n : Nat) (hn12 : n ≤ 12) (g : Nat → Int32) (h0 : 0 < d) (hT : (T (π (d - 1))).1 ≤ 12) (τ : zT) : zMv l G (zAll ad na ma) yX0_popInto wsX0_popInto 2 43 [.ref (ma 3), .ref (ad 0)] (zNA G ad n 12 g (zRest G ad na ma π d fl T) τ) (zNA G ad ((T (π (d - 1))).1) 12 ((T (π (d - 1))).2.1) (zRest G ad na ma π (d - 1) fl T) (zCpG (T (π (d - 1))).2.2 (zIt (zCpS (T (π (d - 1))).2.2) (T (π (d - 1))).1 τ))) := by
  refine z_met (cc := cX0_popInto) (maxL := 2) (ret := none) (by decide) rfl (Nat.le_of_ble_eq_true rfl) ?_
  intro p e s m below meth c ls S hr hlk hnm hN hK hl
  have S : CallFix p m c cX0_popInto 2 s _ wsX0_popInto RX0 := S
  obtain ⟨hx, hb, hml, hown, hts⟩ := id S
  have hN12 : 12 ≤ 12 := Nat.le_refl 12
  have hA := zAp_top (G := G) hd π d fl T
  have hS : va_S (zAll ad na ma) s.heap s.heap [] := va_S.rf
  have hl : lv_has ls 2 [(0, .ref (ma 3)), (1, .ref (ad 0))] := hl
  refine lv_aload_n hx hb dX0_popInto_0 rfl (lv_at hl 0 rfl) ?_
  refine z_getH (v := .int (nI d)) hx hb hts hown in_X0_popInto_X0 hK hN 1 (by decide) rfl (hts _ (List.mem_of_getElem? (i := 1) (by decide +kernel))) rfl dX0_popInto_1 ?_
  refine lv_if_le (tgt := 30) hx hb dX0_popInto_4 (by decide) (fun c_1 => ?_) (fun c_2 => ?_)
  · skip
    have c_1 := Int32.not_lt.mpr c_1
    exact absurd h0 (by have := (not_congr (z_ltI (a := 0) (b := d) (by omega) (by omega))).mp c_1; omega)
  · skip
    have c_2 := Int32.not_le.mp c_2
    refine lv_aload_n hx hb dX0_popInto_7 rfl (lv_at hl 0 rfl) ?_
    refine lv_dup hx hb dX0_popInto_8 rfl ?_
    refine z_getH (v := .int (nI d)) hx hb hts hown in_X0_popInto_X0 hK hN 1 (by decide) rfl (hts _ (List.mem_of_getElem? (i := 1) (by decide +kernel))) rfl dX0_popInto_9 ?_
    refine lv_iconst (v := 1) hx hb dX0_popInto_12 (by decide) ?_
    refine lv_isub hx hb dX0_popInto_13 ?_
    refine z_top (x2 := nI (d - 1)) (pk_sub (a := d) (b := 1) (by omega)) ?_
    refine z_putH (w := nI (d - 1)) hx hb hts hown in_X0_popInto_X0 hK hA hS hN (hts _ (List.mem_of_getElem? (i := 1) (by decide +kernel))) (d - 1) rfl dX0_popInto_14 (fun H locs hN hS => ?_)
    have hA := zAp_top (G := G) hd π (d - 1) fl T
    refine lv_aload_n hx hb dX0_popInto_17 rfl (lv_at hl 1 rfl) ?_
    refine lv_aload_n hx hb dX0_popInto_18 rfl (lv_at hl 0 rfl) ?_
    refine z_getH (v := .ref (ma 4)) hx hb hts hown in_X0_popInto_X0 hK hN 0 (by decide) rfl (hts _ (List.mem_of_getElem? (i := 2) (by decide +kernel))) rfl dX0_popInto_19 ?_
    refine lv_aload_n hx hb dX0_popInto_22 rfl (lv_at hl 0 rfl) ?_
    refine z_getH (v := .int (nI (d - 1))) hx hb hts hown in_X0_popInto_X0 hK hN 1 (by decide) rfl (hts _ (List.mem_of_getElem? (i := 1) (by decide +kernel))) rfl dX0_popInto_23 ?_
    refine z_aaldV (i := (d - 1)) hx hb hK hN rfl (by omega) dX0_popInto_26 ?_
    refine z_vv (As := [.ref (na (π (d - 1)) 0)]) (rest := []) (P2 := zNA G ad ((T (π (d - 1))).1) 12 ((T (π (d - 1))).2.1) (zRest G ad na ma π (d - 1) fl T) (zCpG (T (π (d - 1))).2.2 (zIt (zCpS (T (π (d - 1))).2.2) (T (π (d - 1))).1 τ))) S (t_copy_0 hd π (d - 1) fl T n g τ (by have := hπ.1 (d - 1) (by omega); omega) (by have := hπ.1 (d - 1) (by omega); omega) hT) (cwV 1 hts gX0_popInto_X1_copyFrom rfl rfl rfl (by decide +kernel) ⟨Nat.le_of_ble_eq_true rfl, Nat.le_of_ble_eq_true rfl⟩) (z_recN hK hN) hN hK hS (fun _ _ h => h) (fun _ h => h) hl.1 rfl rfl (Nat.le_of_ble_eq_true rfl) dX0_popInto_27 ⟨Nat.le_refl _, Nat.le_refl _⟩ (fun H locs hN hS _ => ?_)
    have hA := zAp_top (G := G) hd π (d - 1) fl T
    exact z_vret hx hb hr hlk hK hS (hN) dX0_popInto_30
