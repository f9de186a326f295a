/-! rows laid by my own program (wip/whole/gen) -/
theorem in_X5_takeCopy_X5 : ∀ w ∈ wsX50, w ∈ wsX5_takeCopy := by decide +kernel
set_option maxHeartbeats 4000000 in
set_option maxRecDepth 100000 in
theorem r_X5_takeCopy (l : Launch) (G : zG) (A : Nat → Prop) (ad : Nat → Nat) (hA : zAm G ad A) (th : Int32) (cp hf : Nat → Int32) (d : Nat) (hd : d ≤ 6) (sl sv σ el wi : Nat → Int32) : zMv l G A yX5_takeCopy wsX5_takeCopy 0 0 [.ref (ad 0)] (zMQ G ad (th, cp, hf, nI d, sl, sv) σ el wi) (zMQ G ad (th, (va_cpy σ cp 0 0 123), hf, nI d, sl, sv) σ el wi) := by
  refine z_met (cc := cX5_takeCopy) (maxL := 2) (ret := none) (by decide) rfl (Nat.le_of_ble_eq_true rfl) ?_
  intro p e s m below meth c ls S hr hlk hnm hM hK hl
  have S : CallFix p m c cX5_takeCopy 2 s _ wsX5_takeCopy RX5 := S
  obtain ⟨hx, hb, hml, hown, hts⟩ := id S
  have hS : va_S A s.heap s.heap [] := va_S.rf
  have hl : lv_has ls 2 [(0, .ref (ad 0))] := hl
  refine lv_iconst (v := 0) hx hb dX5_takeCopy_0 (by decide) ?_
  refine lv_istore_n (lv' := [(1, .int 0), (0, .ref (ad 0))]) hx hb dX5_takeCopy_1 rfl hl (by decide) rfl (fun ls hl => ?_)
  have loop1 : ∀ (f1 k : Nat) (H : Heap) (locs : List Loc) (ls : Array Slot), k ≤ 123 → 123 < k + f1 → zMQ G ad (th, (va_cpy σ cp 0 0 k), hf, nI d, sl, sv) σ el wi H → va_S A s.heap H locs → lv_has ls 2 [(1, .int (nI k)), (0, .ref (ad 0))] → W p l e ({ frames := 0, cells := 0, slots := 0, locals := 0 } : Room) s m ([.ref (ad 0)] : List Value).toArray below meth c H locs 0 0 (MQ below (zQv G (zMQ G ad (th, (va_cpy σ cp 0 0 123), hf, nI d, sl, sv) σ el wi) A) ([.ref (ad 0)] : List Value).toArray s 0 0 A) (F0 m 2 ls []) := by
    intro f1
    induction f1 with
    | zero => intro k H locs ls h1 h2; exact absurd h2 (by omega)
    | succ f1 ih1 =>
      intro k H locs ls hk1 hf1 hM hS hl
      generalize hF_fk : va_cpy σ cp 0 0 k = fk at hM hl 
      refine lv_iload_n hx hb dX5_takeCopy_2 rfl (lv_at hl 0 rfl) ?_
      refine lv_bipush (v := 123) hx hb dX5_takeCopy_3 (by decide) ?_
      refine lv_icmp_ge (tgt := 26) hx hb dX5_takeCopy_5 (by decide) (fun c_1 => ?_) (fun c_2 => ?_)
      · skip
        have c_1 := (z_leI (a := 123) (b := k) (by omega) (by omega)).mp c_1
        have hkn1 : k = 123 := by omega
        rw [hkn1] at hF_fk
        subst hF_fk
        exact z_vret hx hb hr hlk hK hS (hM) dX5_takeCopy_26
      · skip
        have c_2 := (not_congr (z_leI (a := 123) (b := k) (by omega) (by omega))).mp c_2
        refine lv_aload_n hx hb dX5_takeCopy_8 rfl (lv_at hl 1 rfl) ?_
        refine z_getM (v := .ref (ad 2)) hx hb hts hown in_X5_takeCopy_X5 hK hM 2 (by decide) rfl (hts _ (List.mem_of_getElem? (i := 1) (by decide +kernel))) rfl dX5_takeCopy_9 ?_
        refine lv_iload_n hx hb dX5_takeCopy_12 rfl (lv_at hl 0 rfl) ?_
        refine lv_aload_n hx hb dX5_takeCopy_13 rfl (lv_at hl 1 rfl) ?_
        refine z_getM (v := .ref (ad 1)) hx hb hts hown in_X5_takeCopy_X5 hK hM 1 (by decide) rfl (hts _ (List.mem_of_getElem? (i := 2) (by decide +kernel))) rfl dX5_takeCopy_14 ?_
        refine lv_iload_n hx hb dX5_takeCopy_17 rfl (lv_at hl 0 rfl) ?_
        refine z_ldM (w := σ k) hx hb hK hM 1 rfl k rfl (by omega) (by decide) rfl dX5_takeCopy_18 ?_
        refine z_stM (w := σ k) hx hb hK hA hS hM 2 rfl k rfl (by omega) (by decide) (zMQ G ad (th, (upd fk k (σ k)), hf, nI d, sl, sv) σ el wi) (fun _ h => h) dX5_takeCopy_19 (fun H locs hM hS => ?_)
        refine lv_iinc (v := nI (k + 1)) (lv' := [(1, .int (nI (k + 1))), (0, .ref (ad 0))]) hx hb dX5_takeCopy_20 hl (k := 0) rfl (nI_1 _) (by decide) rfl (fun ls hl => ?_)
        refine lv_goto (tgt := 2) hx hb dX5_takeCopy_23 (by decide) ?_
        have e_k : (upd fk k (σ k)) = va_cpy σ cp 0 0 (k + 1) := by rw [← hF_fk]; exact zCp_s0 _ _ _
        refine ih1 (k + 1) _ _ _ (by omega) (by omega) (by rw [← e_k]; exact hM) hS (lv_sub hl [0, 1] rfl)
  exact loop1 (123 + 1) 0 _ _ _ (by omega) (by omega) (by rw [zCp_0]; exact hM) hS (lv_sub hl [0, 1] rfl)

theorem in_X5_putBack_X5 : ∀ w ∈ wsX50, w ∈ wsX5_putBack := by decide +kernel
set_option maxHeartbeats 4000000 in
set_option maxRecDepth 100000 in
theorem r_X5_putBack (l : Launch) (G : zG) (A : Nat → Prop) (ad : Nat → Nat) (hA : zAm G ad A) (th : Int32) (cp hf : Nat → Int32) (d : Nat) (hd : d ≤ 6) (sl sv σ el wi : Nat → Int32) : zMv l G A yX5_putBack wsX5_putBack 0 0 [.ref (ad 0)] (zMQ G ad (th, cp, hf, nI d, sl, sv) σ el wi) (zMQ G ad (th, cp, hf, nI d, sl, sv) (va_cpy cp σ 0 0 123) el wi) := by
  refine z_met (cc := cX5_putBack) (maxL := 2) (ret := none) (by decide) rfl (Nat.le_of_ble_eq_true rfl) ?_
  intro p e s m below meth c ls S hr hlk hnm hM hK hl
  have S : CallFix p m c cX5_putBack 2 s _ wsX5_putBack RX5 := S
  obtain ⟨hx, hb, hml, hown, hts⟩ := id S
  have hS : va_S A s.heap s.heap [] := va_S.rf
  have hl : lv_has ls 2 [(0, .ref (ad 0))] := hl
  refine lv_iconst (v := 0) hx hb dX5_putBack_0 (by decide) ?_
  refine lv_istore_n (lv' := [(1, .int 0), (0, .ref (ad 0))]) hx hb dX5_putBack_1 rfl hl (by decide) rfl (fun ls hl => ?_)
  have loop1 : ∀ (f1 k : Nat) (H : Heap) (locs : List Loc) (ls : Array Slot), k ≤ 123 → 123 < k + f1 → zMQ G ad (th, cp, hf, nI d, sl, sv) (va_cpy cp σ 0 0 k) el wi H → va_S A s.heap H locs → lv_has ls 2 [(1, .int (nI k)), (0, .ref (ad 0))] → W p l e ({ frames := 0, cells := 0, slots := 0, locals := 0 } : Room) s m ([.ref (ad 0)] : List Value).toArray below meth c H locs 0 0 (MQ below (zQv G (zMQ G ad (th, cp, hf, nI d, sl, sv) (va_cpy cp σ 0 0 123) el wi) A) ([.ref (ad 0)] : List Value).toArray s 0 0 A) (F0 m 2 ls []) := by
    intro f1
    induction f1 with
    | zero => intro k H locs ls h1 h2; exact absurd h2 (by omega)
    | succ f1 ih1 =>
      intro k H locs ls hk1 hf1 hM hS hl
      generalize hF_fk : va_cpy cp σ 0 0 k = fk at hM hl 
      refine lv_iload_n hx hb dX5_putBack_2 rfl (lv_at hl 0 rfl) ?_
      refine lv_bipush (v := 123) hx hb dX5_putBack_3 (by decide) ?_
      refine lv_icmp_ge (tgt := 26) hx hb dX5_putBack_5 (by decide) (fun c_1 => ?_) (fun c_2 => ?_)
      · skip
        have c_1 := (z_leI (a := 123) (b := k) (by omega) (by omega)).mp c_1
        have hkn1 : k = 123 := by omega
        rw [hkn1] at hF_fk
        subst hF_fk
        exact z_vret hx hb hr hlk hK hS (hM) dX5_putBack_26
      · skip
        have c_2 := (not_congr (z_leI (a := 123) (b := k) (by omega) (by omega))).mp c_2
        refine lv_aload_n hx hb dX5_putBack_8 rfl (lv_at hl 1 rfl) ?_
        refine z_getM (v := .ref (ad 1)) hx hb hts hown in_X5_putBack_X5 hK hM 1 (by decide) rfl (hts _ (List.mem_of_getElem? (i := 1) (by decide +kernel))) rfl dX5_putBack_9 ?_
        refine lv_iload_n hx hb dX5_putBack_12 rfl (lv_at hl 0 rfl) ?_
        refine lv_aload_n hx hb dX5_putBack_13 rfl (lv_at hl 1 rfl) ?_
        refine z_getM (v := .ref (ad 2)) hx hb hts hown in_X5_putBack_X5 hK hM 2 (by decide) rfl (hts _ (List.mem_of_getElem? (i := 2) (by decide +kernel))) rfl dX5_putBack_14 ?_
        refine lv_iload_n hx hb dX5_putBack_17 rfl (lv_at hl 0 rfl) ?_
        refine z_ldM (w := cp k) hx hb hK hM 2 rfl k rfl (by omega) (by decide) rfl dX5_putBack_18 ?_
        refine z_stM (w := cp k) hx hb hK hA hS hM 1 rfl k rfl (by omega) (by decide) (zMQ G ad (th, cp, hf, nI d, sl, sv) (upd fk k (cp k)) el wi) (fun _ h => h) dX5_putBack_19 (fun H locs hM hS => ?_)
        refine lv_iinc (v := nI (k + 1)) (lv' := [(1, .int (nI (k + 1))), (0, .ref (ad 0))]) hx hb dX5_putBack_20 hl (k := 0) rfl (nI_1 _) (by decide) rfl (fun ls hl => ?_)
        refine lv_goto (tgt := 2) hx hb dX5_putBack_23 (by decide) ?_
        have e_k : (upd fk k (cp k)) = va_cpy cp σ 0 0 (k + 1) := by rw [← hF_fk]; exact zCp_s0 _ _ _
        refine ih1 (k + 1) _ _ _ (by omega) (by omega) (by rw [← e_k]; exact hM) hS (lv_sub hl [0, 1] rfl)
  exact loop1 (123 + 1) 0 _ _ _ (by omega) (by omega) (by rw [zCp_0]; exact hM) hS (lv_sub hl [0, 1] rfl)

theorem in_X5_keep_X5 : ∀ w ∈ wsX50, w ∈ wsX5_keep := by decide +kernel
set_option maxHeartbeats 4000000 in
set_option maxRecDepth 100000 in
theorem r_X5_keep (l : Launch) (G : zG) (A : Nat → Prop) (ad : Nat → Nat) (hA : zAm G ad A) (th : Int32) (cp hf : Nat → Int32) (d : Nat) (hd : d ≤ 6) (sl sv σ el wi : Nat → Int32) : zMv l G A yX5_keep wsX5_keep 0 0 [.ref (ad 0)] (zMQ G ad (th, cp, hf, nI d, sl, sv) σ el wi) (zMQ G ad (th, cp, (zKf d σ hf), nI (zKd d + 1), sl, sv) σ el wi) := by
  refine z_met (cc := cX5_keep) (maxL := 2) (ret := none) (by decide) rfl (Nat.le_of_ble_eq_true rfl) ?_
  intro p e s m below meth c ls S hr hlk hnm hM hK hl
  have S : CallFix p m c cX5_keep 2 s _ wsX5_keep RX5 := S
  obtain ⟨hx, hb, hml, hown, hts⟩ := id S
  have hS : va_S A s.heap s.heap [] := va_S.rf
  have hl : lv_has ls 2 [(0, .ref (ad 0))] := hl
  refine lv_aload_n hx hb dX5_keep_0 rfl (lv_at hl 0 rfl) ?_
  refine z_getM (v := .int (nI d)) hx hb hts hown in_X5_keep_X5 hK hM 4 (by decide) rfl (hts _ (List.mem_of_getElem? (i := 1) (by decide +kernel))) rfl dX5_keep_1 ?_
  refine lv_bipush (v := 6) hx hb dX5_keep_4 (by decide) ?_
  refine lv_icmp_ne (tgt := 49) hx hb dX5_keep_6 (by decide) (fun c_1 => ?_) (fun c_2 => ?_)
  · skip
    have c_1 := (not_congr (z_eqI (a := d) (b := 6) (by omega) (by omega))).mp c_1
    refine lv_iconst (v := 0) hx hb dX5_keep_49 (by decide) ?_
    refine lv_istore_n (lv' := [(1, .int 0), (0, .ref (ad 0))]) hx hb dX5_keep_50 rfl hl (by decide) rfl (fun ls hl => ?_)
    have loop1 : ∀ (f1 k : Nat) (H : Heap) (locs : List Loc) (ls : Array Slot), k ≤ 123 → 123 < k + f1 → zMQ G ad (th, cp, (va_cpy σ hf 0 (123 * d) k), nI d, sl, sv) σ el wi H → va_S A s.heap H locs → lv_has ls 2 [(1, .int (nI k)), (0, .ref (ad 0))] → W p l e ({ frames := 0, cells := 0, slots := 0, locals := 0 } : Room) s m ([.ref (ad 0)] : List Value).toArray below meth c H locs 0 0 (MQ below (zQv G (zMQ G ad (th, cp, (zKf d σ hf), nI (zKd d + 1), sl, sv) σ el wi) A) ([.ref (ad 0)] : List Value).toArray s 0 0 A) (F0 m 51 ls []) := by
      intro f1
      induction f1 with
      | zero => intro k H locs ls h1 h2; exact absurd h2 (by omega)
      | succ f1 ih1 =>
        intro k H locs ls hk1 hf1 hM hS hl
        generalize hF_fk : va_cpy σ hf 0 (123 * d) k = fk at hM hl 
        refine lv_iload_n hx hb dX5_keep_51 rfl (lv_at hl 0 rfl) ?_
        refine lv_bipush (v := 123) hx hb dX5_keep_52 (by decide) ?_
        refine lv_icmp_ge (tgt := 83) hx hb dX5_keep_54 (by decide) (fun c_3 => ?_) (fun c_4 => ?_)
        · skip
          have c_3 := (z_leI (a := 123) (b := k) (by omega) (by omega)).mp c_3
          have hkn1 : k = 123 := by omega
          rw [hkn1] at hF_fk
          subst hF_fk
          refine lv_aload_n hx hb dX5_keep_83 rfl (lv_at hl 1 rfl) ?_
          refine lv_dup hx hb dX5_keep_84 rfl ?_
          refine z_getM (v := .int (nI d)) hx hb hts hown in_X5_keep_X5 hK hM 4 (by decide) rfl (hts _ (List.mem_of_getElem? (i := 1) (by decide +kernel))) rfl dX5_keep_85 ?_
          refine lv_iconst (v := 1) hx hb dX5_keep_88 (by decide) ?_
          refine lv_iadd hx hb dX5_keep_89 ?_
          refine z_top (x2 := nI (d + 1)) (nI_add d 1) ?_
          refine z_putM (w := nI (d + 1)) hx hb hts hown in_X5_keep_X5 hK hA hS hM 4 (by decide) rfl (hts _ (List.mem_of_getElem? (i := 1) (by decide +kernel))) (by decide +kernel) rfl (th, cp, (va_cpy σ hf 0 (123 * d) 123), nI (d + 1), sl, sv) rfl ⟨rfl, rfl, rfl⟩ dX5_keep_90 (fun H locs hM hS => ?_)
          exact z_vret hx hb hr hlk hK hS (by have hM2 := hM; simp [zKf, zKd, c_1] at hM2 ⊢; exact hM2) dX5_keep_93
        · skip
          have c_4 := (not_congr (z_leI (a := 123) (b := k) (by omega) (by omega))).mp c_4
          refine lv_aload_n hx hb dX5_keep_57 rfl (lv_at hl 1 rfl) ?_
          refine z_getM (v := .ref (ad 3)) hx hb hts hown in_X5_keep_X5 hK hM 3 (by decide) rfl (hts _ (List.mem_of_getElem? (i := 2) (by decide +kernel))) rfl dX5_keep_58 ?_
          refine lv_bipush (v := 123) hx hb dX5_keep_61 (by decide) ?_
          refine lv_aload_n hx hb dX5_keep_63 rfl (lv_at hl 1 rfl) ?_
          refine z_getM (v := .int (nI d)) hx hb hts hown in_X5_keep_X5 hK hM 4 (by decide) rfl (hts _ (List.mem_of_getElem? (i := 1) (by decide +kernel))) rfl dX5_keep_64 ?_
          refine lv_imul hx hb dX5_keep_67 ?_
          refine z_top (x2 := nI (123 * d)) (pk_mul 123 d) ?_
          refine lv_iload_n hx hb dX5_keep_68 rfl (lv_at hl 0 rfl) ?_
          refine lv_iadd hx hb dX5_keep_69 ?_
          refine z_top (x2 := nI ((123 * d) + k)) (nI_add (123 * d) k) ?_
          refine lv_aload_n hx hb dX5_keep_70 rfl (lv_at hl 1 rfl) ?_
          refine z_getM (v := .ref (ad 1)) hx hb hts hown in_X5_keep_X5 hK hM 1 (by decide) rfl (hts _ (List.mem_of_getElem? (i := 3) (by decide +kernel))) rfl dX5_keep_71 ?_
          refine lv_iload_n hx hb dX5_keep_74 rfl (lv_at hl 0 rfl) ?_
          refine z_ldM (w := σ k) hx hb hK hM 1 rfl k rfl (by omega) (by decide) rfl dX5_keep_75 ?_
          refine z_stM (w := σ k) hx hb hK hA hS hM 3 rfl ((123 * d) + k) rfl (by omega) (by decide) (zMQ G ad (th, cp, (upd fk ((123 * d) + k) (σ k)), nI d, sl, sv) σ el wi) (fun _ h => h) dX5_keep_76 (fun H locs hM hS => ?_)
          refine lv_iinc (v := nI (k + 1)) (lv' := [(1, .int (nI (k + 1))), (0, .ref (ad 0))]) hx hb dX5_keep_77 hl (k := 0) rfl (nI_1 _) (by decide) rfl (fun ls hl => ?_)
          refine lv_goto (tgt := 51) hx hb dX5_keep_80 (by decide) ?_
          have e_k : (upd fk ((123 * d) + k) (σ k)) = va_cpy σ hf 0 (123 * d) (k + 1) := by rw [← hF_fk]; exact zCp_s2 _ _ _ _
          refine ih1 (k + 1) _ _ _ (by omega) (by omega) (by rw [← e_k]; exact hM) hS (lv_sub hl [0, 1] rfl)
    exact loop1 (123 + 1) 0 _ _ _ (by omega) (by omega) (by rw [zCp_0]; exact hM) hS (lv_sub hl [0, 1] rfl)
  · skip
    have c_2 := (z_eqI (a := d) (b := 6) (by omega) (by omega)).mp c_2
    refine lv_iconst (v := 0) hx hb dX5_keep_9 (by decide) ?_
    refine lv_istore_n (lv' := [(1, .int 0), (0, .ref (ad 0))]) hx hb dX5_keep_10 rfl hl (by decide) rfl (fun ls hl => ?_)
    have loop2 : ∀ (f2 j : Nat) (H : Heap) (locs : List Loc) (ls : Array Slot), j ≤ 615 → 615 < j + f2 → zMQ G ad (th, cp, (va_cpy hf hf 123 0 j), nI d, sl, sv) σ el wi H → va_S A s.heap H locs → lv_has ls 2 [(1, .int (nI j)), (0, .ref (ad 0))] → W p l e ({ frames := 0, cells := 0, slots := 0, locals := 0 } : Room) s m ([.ref (ad 0)] : List Value).toArray below meth c H locs 0 0 (MQ below (zQv G (zMQ G ad (th, cp, (zKf d σ hf), nI (zKd d + 1), sl, sv) σ el wi) A) ([.ref (ad 0)] : List Value).toArray s 0 0 A) (F0 m 11 ls []) := by
      intro f2
      induction f2 with
      | zero => intro j H locs ls h1 h2; exact absurd h2 (by omega)
      | succ f2 ih2 =>
        intro j H locs ls hk2 hf2 hM hS hl
        generalize hF_fk : va_cpy hf hf 123 0 j = fk at hM hl 
        refine lv_iload_n hx hb dX5_keep_11 rfl (lv_at hl 0 rfl) ?_
        refine lv_sipush (v := 615) hx hb dX5_keep_12 (by decide) ?_
        refine lv_icmp_ge (tgt := 39) hx hb dX5_keep_15 (by decide) (fun c_5 => ?_) (fun c_6 => ?_)
        · skip
          have c_5 := (z_leI (a := 615) (b := j) (by omega) (by omega)).mp c_5
          have hkn2 : j = 615 := by omega
          rw [hkn2] at hF_fk
          subst hF_fk
          refine lv_aload_n hx hb dX5_keep_39 rfl (lv_at hl 1 rfl) ?_
          refine lv_dup hx hb dX5_keep_40 rfl ?_
          refine z_getM (v := .int (nI d)) hx hb hts hown in_X5_keep_X5 hK hM 4 (by decide) rfl (hts _ (List.mem_of_getElem? (i := 1) (by decide +kernel))) rfl dX5_keep_41 ?_
          refine lv_iconst (v := 1) hx hb dX5_keep_44 (by decide) ?_
          refine lv_isub hx hb dX5_keep_45 ?_
          refine z_top (x2 := nI (d - 1)) (pk_sub (a := d) (b := 1) (by omega)) ?_
          refine z_putM (w := nI (d - 1)) hx hb hts hown in_X5_keep_X5 hK hA hS hM 4 (by decide) rfl (hts _ (List.mem_of_getElem? (i := 1) (by decide +kernel))) (by decide +kernel) rfl (th, cp, (va_cpy hf hf 123 0 615), nI (d - 1), sl, sv) rfl ⟨rfl, rfl, rfl⟩ dX5_keep_46 (fun H locs hM hS => ?_)
          refine lv_iconst (v := 0) hx hb dX5_keep_49 (by decide) ?_
          refine lv_istore_n (lv' := [(1, .int 0), (0, .ref (ad 0))]) hx hb dX5_keep_50 rfl hl (by decide) rfl (fun ls hl => ?_)
          have loop3 : ∀ (f3 k : Nat) (H : Heap) (locs : List Loc) (ls : Array Slot), k ≤ 123 → 123 < k + f3 → zMQ G ad (th, cp, (va_cpy σ (va_cpy hf hf 123 0 615) 0 (123 * (d - 1)) k), nI (d - 1), sl, sv) σ el wi H → va_S A s.heap H locs → lv_has ls 2 [(1, .int (nI k)), (0, .ref (ad 0))] → W p l e ({ frames := 0, cells := 0, slots := 0, locals := 0 } : Room) s m ([.ref (ad 0)] : List Value).toArray below meth c H locs 0 0 (MQ below (zQv G (zMQ G ad (th, cp, (zKf d σ hf), nI (zKd d + 1), sl, sv) σ el wi) A) ([.ref (ad 0)] : List Value).toArray s 0 0 A) (F0 m 51 ls []) := by
            intro f3
            induction f3 with
            | zero => intro k H locs ls h1 h2; exact absurd h2 (by omega)
            | succ f3 ih3 =>
              intro k H locs ls hk3 hf3 hM hS hl
              generalize hF_fk : va_cpy σ (va_cpy hf hf 123 0 615) 0 (123 * (d - 1)) k = fk at hM hl 
              refine lv_iload_n hx hb dX5_keep_51 rfl (lv_at hl 0 rfl) ?_
              refine lv_bipush (v := 123) hx hb dX5_keep_52 (by decide) ?_
              refine lv_icmp_ge (tgt := 83) hx hb dX5_keep_54 (by decide) (fun c_7 => ?_) (fun c_8 => ?_)
              · skip
                have c_7 := (z_leI (a := 123) (b := k) (by omega) (by omega)).mp c_7
                have hkn3 : k = 123 := by omega
                rw [hkn3] at hF_fk
                subst hF_fk
                refine lv_aload_n hx hb dX5_keep_83 rfl (lv_at hl 1 rfl) ?_
                refine lv_dup hx hb dX5_keep_84 rfl ?_
                refine z_getM (v := .int (nI (d - 1))) hx hb hts hown in_X5_keep_X5 hK hM 4 (by decide) rfl (hts _ (List.mem_of_getElem? (i := 1) (by decide +kernel))) rfl dX5_keep_85 ?_
                refine lv_iconst (v := 1) hx hb dX5_keep_88 (by decide) ?_
                refine lv_iadd hx hb dX5_keep_89 ?_
                refine z_top (x2 := nI ((d - 1) + 1)) (nI_add (d - 1) 1) ?_
                refine z_putM (w := nI ((d - 1) + 1)) hx hb hts hown in_X5_keep_X5 hK hA hS hM 4 (by decide) rfl (hts _ (List.mem_of_getElem? (i := 1) (by decide +kernel))) (by decide +kernel) rfl (th, cp, (va_cpy σ (va_cpy hf hf 123 0 615) 0 (123 * (d - 1)) 123), nI ((d - 1) + 1), sl, sv) rfl ⟨rfl, rfl, rfl⟩ dX5_keep_90 (fun H locs hM hS => ?_)
                exact z_vret hx hb hr hlk hK hS (by have hM2 := hM; simp [zKf, zKd, c_2] at hM2 ⊢; exact hM2) dX5_keep_93
              · skip
                have c_8 := (not_congr (z_leI (a := 123) (b := k) (by omega) (by omega))).mp c_8
                refine lv_aload_n hx hb dX5_keep_57 rfl (lv_at hl 1 rfl) ?_
                refine z_getM (v := .ref (ad 3)) hx hb hts hown in_X5_keep_X5 hK hM 3 (by decide) rfl (hts _ (List.mem_of_getElem? (i := 2) (by decide +kernel))) rfl dX5_keep_58 ?_
                refine lv_bipush (v := 123) hx hb dX5_keep_61 (by decide) ?_
                refine lv_aload_n hx hb dX5_keep_63 rfl (lv_at hl 1 rfl) ?_
                refine z_getM (v := .int (nI (d - 1))) hx hb hts hown in_X5_keep_X5 hK hM 4 (by decide) rfl (hts _ (List.mem_of_getElem? (i := 1) (by decide +kernel))) rfl dX5_keep_64 ?_
                refine lv_imul hx hb dX5_keep_67 ?_
                refine z_top (x2 := nI (123 * (d - 1))) (pk_mul 123 (d - 1)) ?_
                refine lv_iload_n hx hb dX5_keep_68 rfl (lv_at hl 0 rfl) ?_
                refine lv_iadd hx hb dX5_keep_69 ?_
                refine z_top (x2 := nI ((123 * (d - 1)) + k)) (nI_add (123 * (d - 1)) k) ?_
                refine lv_aload_n hx hb dX5_keep_70 rfl (lv_at hl 1 rfl) ?_
                refine z_getM (v := .ref (ad 1)) hx hb hts hown in_X5_keep_X5 hK hM 1 (by decide) rfl (hts _ (List.mem_of_getElem? (i := 3) (by decide +kernel))) rfl dX5_keep_71 ?_
                refine lv_iload_n hx hb dX5_keep_74 rfl (lv_at hl 0 rfl) ?_
                refine z_ldM (w := σ k) hx hb hK hM 1 rfl k rfl (by omega) (by decide) rfl dX5_keep_75 ?_
                refine z_stM (w := σ k) hx hb hK hA hS hM 3 rfl ((123 * (d - 1)) + k) rfl (by omega) (by decide) (zMQ G ad (th, cp, (upd fk ((123 * (d - 1)) + k) (σ k)), nI (d - 1), sl, sv) σ el wi) (fun _ h => h) dX5_keep_76 (fun H locs hM hS => ?_)
                refine lv_iinc (v := nI (k + 1)) (lv' := [(1, .int (nI (k + 1))), (0, .ref (ad 0))]) hx hb dX5_keep_77 hl (k := 0) rfl (nI_1 _) (by decide) rfl (fun ls hl => ?_)
                refine lv_goto (tgt := 51) hx hb dX5_keep_80 (by decide) ?_
                have e_k : (upd fk ((123 * (d - 1)) + k) (σ k)) = va_cpy σ (va_cpy hf hf 123 0 615) 0 (123 * (d - 1)) (k + 1) := by rw [← hF_fk]; exact zCp_s2 _ _ _ _
                refine ih3 (k + 1) _ _ _ (by omega) (by omega) (by rw [← e_k]; exact hM) hS (lv_sub hl [0, 1] rfl)
          exact loop3 (123 + 1) 0 _ _ _ (by omega) (by omega) (by rw [zCp_0]; exact hM) hS (lv_sub hl [0, 1] rfl)
        · skip
          have c_6 := (not_congr (z_leI (a := 615) (b := j) (by omega) (by omega))).mp c_6
          refine lv_aload_n hx hb dX5_keep_18 rfl (lv_at hl 1 rfl) ?_
          refine z_getM (v := .ref (ad 3)) hx hb hts hown in_X5_keep_X5 hK hM 3 (by decide) rfl (hts _ (List.mem_of_getElem? (i := 2) (by decide +kernel))) rfl dX5_keep_19 ?_
          refine lv_iload_n hx hb dX5_keep_22 rfl (lv_at hl 0 rfl) ?_
          refine lv_aload_n hx hb dX5_keep_23 rfl (lv_at hl 1 rfl) ?_
          refine z_getM (v := .ref (ad 3)) hx hb hts hown in_X5_keep_X5 hK hM 3 (by decide) rfl (hts _ (List.mem_of_getElem? (i := 2) (by decide +kernel))) rfl dX5_keep_24 ?_
          refine lv_bipush (v := 123) hx hb dX5_keep_27 (by decide) ?_
          refine lv_iload_n hx hb dX5_keep_29 rfl (lv_at hl 0 rfl) ?_
          refine lv_iadd hx hb dX5_keep_30 ?_
          refine z_top (x2 := nI (123 + j)) (nI_add 123 j) ?_
          refine z_ldM (w := fk (123 + j)) hx hb hK hM 3 rfl (123 + j) rfl (by omega) (by decide) rfl dX5_keep_31 ?_
          refine z_stM (w := fk (123 + j)) hx hb hK hA hS hM 3 rfl j rfl (by omega) (by decide) (zMQ G ad (th, cp, (upd fk j (fk (123 + j))), nI d, sl, sv) σ el wi) (fun _ h => h) dX5_keep_32 (fun H locs hM hS => ?_)
          refine lv_iinc (v := nI (j + 1)) (lv' := [(1, .int (nI (j + 1))), (0, .ref (ad 0))]) hx hb dX5_keep_33 hl (k := 0) rfl (nI_1 _) (by decide) rfl (fun ls hl => ?_)
          refine lv_goto (tgt := 11) hx hb dX5_keep_36 (by decide) ?_
          have e_j : (upd fk j (fk (123 + j))) = va_cpy hf hf 123 0 (j + 1) := by rw [← hF_fk]; exact zCp_sh _ _ _
          refine ih2 (j + 1) _ _ _ (by omega) (by omega) (by rw [← e_j]; exact hM) hS (lv_sub hl [0, 1] rfl)
    exact loop2 (615 + 1) 0 _ _ _ (by omega) (by omega) (by rw [zCp_0]; exact hM) hS (lv_sub hl [0, 1] rfl)
