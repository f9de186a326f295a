/-! rows laid by my own program (wip/p30/gen): the law's small methods -/
/-- the script's cell k, or a number of its own -/
def zCe (L : Nat) (xs : Nat → Int32) (k : Nat) : Int32 := if k < L then xs k else nI (7919 * (k + 3) * (k + 11))
set_option maxHeartbeats 4000000 in
set_option maxRecDepth 100000 in
theorem l_cell (l : Launch) (G : zG) (A : Nat → Prop) (b L : Nat) (xs : Nat → Int32) (hbA : ¬ A b) (hL : L ≤ 260) (P : Heap → Prop) (k : Nat) (hk : k < 300) : zMiX l G b L xs A yL_cell wsL_cell 0 0 [.ref b, .int (nI k)] P (zCe L xs k) P := by
  refine z_metX (cc := cL_cell) (maxL := 2) (ret := (some .int)) (by decide) rfl (Nat.le_of_ble_eq_true rfl) ?_
  intro p e s m below meth c ls CF hr hlk hnm hW hK hX hl
  have CF : CallFix p m c cL_cell 2 s _ wsL_cell RL := CF
  obtain ⟨hx, hb, hml, hown, hts⟩ := id CF
  have hS : va_S A s.heap s.heap [] := va_S.rf
  have hA : ∀ q, A q → A q := fun _ h => h
  have hl : lv_has ls 2 [(0, .ref b), (1, .int (nI k))] := hl
  refine lv_iload_n hx hb dL_cell_0 rfl (lv_at hl 1 rfl) ?_
  refine lv_aload_n hx hb dL_cell_1 rfl (lv_at hl 0 rfl) ?_
  refine va_slen hx hb hX.1 hX.2 hbA hS dL_cell_2 ?_
  refine lv_icmp_ge (tgt := 12) hx hb dL_cell_3 (by decide) (fun c_1 => ?_) (fun c_2 => ?_)
  · skip
    have c_1 := (z_leI (a := L) (b := k) (by omega) (by omega)).mp c_1
    refine lv_sipush (v := 7919) hx hb dL_cell_12 (by decide) ?_
    refine lv_iload_n hx hb dL_cell_15 rfl (lv_at hl 1 rfl) ?_
    refine lv_iconst (v := 3) hx hb dL_cell_16 (by decide) ?_
    refine lv_iadd hx hb dL_cell_17 ?_
    refine z_top (x2 := nI (k + 3)) (nI_add k 3) ?_
    refine lv_imul hx hb dL_cell_18 ?_
    refine z_top (x2 := nI (7919 * (k + 3))) (pk_mul 7919 (k + 3)) ?_
    refine lv_iload_n hx hb dL_cell_19 rfl (lv_at hl 1 rfl) ?_
    refine lv_bipush (v := 11) hx hb dL_cell_20 (by decide) ?_
    refine lv_iadd hx hb dL_cell_22 ?_
    refine z_top (x2 := nI (k + 11)) (nI_add k 11) ?_
    refine lv_imul hx hb dL_cell_23 ?_
    refine z_top (x2 := nI ((7919 * (k + 3)) * (k + 11))) (pk_mul (7919 * (k + 3)) (k + 11)) ?_
    refine z_top (x2 := zCe L xs k) ((by unfold zCe; first | exact (if_pos (by omega)).symm | exact (if_neg (by omega)).symm)) ?_
    exact z_iret hx hb hr hlk hK hS (hW) dL_cell_24
  · skip
    have c_2 := (not_congr (z_leI (a := L) (b := k) (by omega) (by omega))).mp c_2
    refine lv_aload_n hx hb dL_cell_6 rfl (lv_at hl 0 rfl) ?_
    refine lv_iload_n hx hb dL_cell_7 rfl (lv_at hl 1 rfl) ?_
    refine va_sld hx hb hX.1 hX.2 hbA hS (vp_in_nI (by omega) (by omega)) dL_cell_8 ?_
    rw [nI_clamp (by omega)]
    refine lv_goto (tgt := 24) hx hb dL_cell_9 (by decide) ?_
    refine z_top (x2 := zCe L xs k) ((by unfold zCe; first | exact (if_pos (by omega)).symm | exact (if_neg (by omega)).symm)) ?_
    exact z_iret hx hb hr hlk hK hS (hW) dL_cell_24
def zLo (v n : Int32) : Int32 := (v &&& 2147483647) - (v &&& 2147483647) / n * n
set_option maxHeartbeats 4000000 in
set_option maxRecDepth 100000 in
theorem l_low (l : Launch) (G : zG) (A : Nat → Prop) (P : Heap → Prop) (v n : Int32) (hn0 : ¬ n = 0) : zMi l G A yL_low wsL_low 0 0 [.int v, .int n] P (zLo v n) P := by
  refine z_met (cc := cL_low) (maxL := 2) (ret := (some .int)) (by decide) rfl (Nat.le_of_ble_eq_true rfl) ?_
  intro p e s m below meth c ls CF hr hlk hnm hW hK hl
  have CF : CallFix p m c cL_low 2 s _ wsL_low RL := CF
  obtain ⟨hx, hb, hml, hown, hts⟩ := id CF
  have hS : va_S A s.heap s.heap [] := va_S.rf
  have hA : ∀ q, A q → A q := fun _ h => h
  have hl : lv_has ls 2 [(0, .int v), (1, .int n)] := hl
  refine lv_iload_n hx hb dL_low_0 rfl (lv_at hl 0 rfl) ?_
  refine lv_ldc (v := 2147483647) hx hb hown (hts _ (List.mem_of_getElem? (i := 1) (by decide +kernel))) dL_low_1 ?_
  refine lv_iand hx hb dL_low_3 ?_
  refine lv_iload_n hx hb dL_low_4 rfl (lv_at hl 1 rfl) ?_
  refine lv_irem hx hb dL_low_5 hn0 ?_
  refine z_top (x2 := zLo v n) (rfl) ?_
  exact z_iret hx hb hr hlk hK hS (hW) dL_low_6
theorem zLo_lt (v : Int32) {d : Nat} (h0 : 0 < d) (hd : d < 2 ^ 31) : ∃ j, j < d ∧ zLo v (nI d) = nI j := by
  unfold zLo
  obtain ⟨j, hj, e⟩ := pk_andE v (m := 2147483647) 31 (by decide)
  rw [e, pk_rem hj h0 hd]
  exact ⟨j % d, Nat.mod_lt _ h0, rfl⟩
def zFa2 (f : Nat → Int32) (i j : Nat) : Int32 := zDi (f (6 * i)) (f ((6 * i) + 1)) (f (6 * j)) (f ((6 * j) + 1))
set_option maxHeartbeats 4000000 in
set_option maxRecDepth 100000 in
theorem l_far (l : Launch) (G : zG) (ad : Nat → Nat) (na : Nat → Nat → Nat) (ma : Nat → Nat) (mm : Nat) (S : zSg) (f : Nat → Int32) (i j : Nat) (hi : i < 10) (hj : j < 10) : zMi l G (zAw ad na ma mm) yL_far wsL_far 0 0 [.ref mm, .int (nI i), .int (nI j)] (zLW G ad na ma mm S f) (zFa2 f i j) (zLW G ad na ma mm S f) := by
  refine z_met (cc := cL_far) (maxL := 5) (ret := (some .int)) (by decide) rfl (Nat.le_of_ble_eq_true rfl) ?_
  intro p e s m below meth c ls CF hr hlk hnm hW hK hl
  have CF : CallFix p m c cL_far 5 s _ wsL_far RL := CF
  obtain ⟨hx, hb, hml, hown, hts⟩ := id CF
  have hS : va_S (zAw ad na ma mm) s.heap s.heap [] := va_S.rf
  have hA : ∀ q, (zAw ad na ma mm) q → (zAw ad na ma mm) q := fun _ h => h
  have hl : lv_has ls 5 [(0, .ref mm), (1, .int (nI i)), (2, .int (nI j))] := hl
  refine lv_aload_n hx hb dL_far_0 rfl (lv_at hl 0 rfl) ?_
  refine lv_bipush (v := 6) hx hb dL_far_1 (by decide) ?_
  refine lv_iload_n hx hb dL_far_3 rfl (lv_at hl 1 rfl) ?_
  refine lv_imul hx hb dL_far_4 ?_
  refine z_top (x2 := nI (6 * i)) (pk_mul 6 i) ?_
  refine z_iaM (j := (6 * i)) (w := f (6 * i)) hx hb hK hW rfl (by omega) (rfl) dL_far_5 ?_
  refine lv_aload_n hx hb dL_far_6 rfl (lv_at hl 0 rfl) ?_
  refine lv_bipush (v := 6) hx hb dL_far_7 (by decide) ?_
  refine lv_iload_n hx hb dL_far_9 rfl (lv_at hl 2 rfl) ?_
  refine lv_imul hx hb dL_far_10 ?_
  refine z_top (x2 := nI (6 * j)) (pk_mul 6 j) ?_
  refine z_iaM (j := (6 * j)) (w := f (6 * j)) hx hb hK hW rfl (by omega) (rfl) dL_far_11 ?_
  refine lv_isub hx hb dL_far_12 ?_
  refine lv_istore_n (lv' := [(3, .int ((f (6 * i)) - (f (6 * j)))), (0, .ref mm), (1, .int (nI i)), (2, .int (nI j))]) hx hb dL_far_13 rfl hl (by decide) rfl (fun ls hl => ?_)
  refine lv_aload_n hx hb dL_far_14 rfl (lv_at hl 1 rfl) ?_
  refine lv_bipush (v := 6) hx hb dL_far_15 (by decide) ?_
  refine lv_iload_n hx hb dL_far_17 rfl (lv_at hl 2 rfl) ?_
  refine lv_imul hx hb dL_far_18 ?_
  refine z_top (x2 := nI (6 * i)) (pk_mul 6 i) ?_
  refine lv_iconst (v := 1) hx hb dL_far_19 (by decide) ?_
  refine lv_iadd hx hb dL_far_20 ?_
  refine z_top (x2 := nI ((6 * i) + 1)) (nI_add (6 * i) 1) ?_
  refine z_iaM (j := ((6 * i) + 1)) (w := f ((6 * i) + 1)) hx hb hK hW rfl (by omega) (rfl) dL_far_21 ?_
  refine lv_aload_n hx hb dL_far_22 rfl (lv_at hl 1 rfl) ?_
  refine lv_bipush (v := 6) hx hb dL_far_23 (by decide) ?_
  refine lv_iload_n hx hb dL_far_25 rfl (lv_at hl 3 rfl) ?_
  refine lv_imul hx hb dL_far_26 ?_
  refine z_top (x2 := nI (6 * j)) (pk_mul 6 j) ?_
  refine lv_iconst (v := 1) hx hb dL_far_27 (by decide) ?_
  refine lv_iadd hx hb dL_far_28 ?_
  refine z_top (x2 := nI ((6 * j) + 1)) (nI_add (6 * j) 1) ?_
  refine z_iaM (j := ((6 * j) + 1)) (w := f ((6 * j) + 1)) hx hb hK hW rfl (by omega) (rfl) dL_far_29 ?_
  refine lv_isub hx hb dL_far_30 ?_
  refine lv_istore (lv' := [(4, .int ((f ((6 * i) + 1)) - (f ((6 * j) + 1)))), (3, .int ((f (6 * i)) - (f (6 * j)))), (0, .ref mm), (1, .int (nI i)), (2, .int (nI j))]) hx hb dL_far_31 hl (by decide) rfl (fun ls hl => ?_)
  refine lv_iload_n hx hb dL_far_33 rfl (lv_at hl 1 rfl) ?_
  refine lv_iload_n hx hb dL_far_34 rfl (lv_at hl 1 rfl) ?_
  refine lv_imul hx hb dL_far_35 ?_
  refine lv_iload hx hb dL_far_36 (lv_at hl 0 rfl) ?_
  refine lv_iload hx hb dL_far_38 (lv_at hl 0 rfl) ?_
  refine lv_imul hx hb dL_far_40 ?_
  refine lv_iadd hx hb dL_far_41 ?_
  refine z_top (x2 := zFa2 f i j) (rfl) ?_
  exact z_iret hx hb hr hlk hK hS (hW) dL_far_42
set_option maxHeartbeats 4000000 in
set_option maxRecDepth 100000 in
theorem l_energy (l : Launch) (G : zG) (ad : Nat → Nat) (na : Nat → Nat → Nat) (ma : Nat → Nat) (hd : zTd ad na ma) (mm : Nat) (hmm : ¬ zAll ad na ma mm) (S : zSg) (hO : zOk S) (f : Nat → Int32) (n : Nat) (hn : S.1.1 = n) (hn12 : n ≤ 12) : zMi l G (zAw ad na ma mm) yL_energy wsL_energy 2 42 [.ref (ma 0), .int (nI n)] (zLW G ad na ma mm S f) (zEg n S.1.2.2) (zLW G ad na ma mm S f) := by
  refine z_met (cc := cL_energy) (maxL := 4) (ret := (some .int)) (by decide) rfl (Nat.le_of_ble_eq_true rfl) ?_
  intro p e s m below meth c ls CF hr hlk hnm hW hK hl
  have CF : CallFix p m c cL_energy 4 s _ wsL_energy RL := CF
  obtain ⟨hx, hb, hml, hown, hts⟩ := id CF
  have hS : va_S (zAw ad na ma mm) s.heap s.heap [] := va_S.rf
  have hA : ∀ q, (zAw ad na ma mm) q → (zAw ad na ma mm) q := fun _ h => h
  have hl : lv_has ls 4 [(0, .ref (ma 0)), (1, .int (nI n))] := hl
  refine lv_aload_n hx hb dL_energy_0 rfl (lv_at hl 0 rfl) ?_
  refine z_vi (As := []) (rest := []) (P2 := zLW G ad na ma mm S f) (r := S.1.2.2 11 14) CF (z_lw hmm f (s_X4_energyPaid l G ad na ma hd S hO)) (cwV 0 hts gL_energy_X4_energyPaid rfl rfl rfl (by decide +kernel) ⟨Nat.le_of_ble_eq_true rfl, Nat.le_of_ble_eq_true rfl⟩) (zCP.rcv hK hW.1) hW hK hS (fun q _ h => hA q h) hA hl.1 rfl rfl (Nat.le_of_ble_eq_true rfl) dL_energy_1 ⟨Nat.le_refl _, Nat.le_refl _⟩ (fun H locs hW hS _ => ?_)
  refine lv_istore_n (lv' := [(2, .int (S.1.2.2 11 14)), (0, .ref (ma 0)), (1, .int (nI n))]) hx hb dL_energy_4 rfl hl (by decide) rfl (fun ls hl => ?_)
  refine lv_iconst (v := 0) hx hb dL_energy_5 (by decide) ?_
  refine lv_istore_n (lv' := [(3, .int 0), (2, .int (S.1.2.2 11 14)), (0, .ref (ma 0)), (1, .int (nI n))]) hx hb dL_energy_6 rfl hl (by decide) rfl (fun ls hl => ?_)
  have loop1 : ∀ (f1 k : Nat) (H : Heap) (locs : List Loc) (ls : Array Slot), k ≤ n → n < k + f1 → zLW G ad na ma mm S f H → va_S (zAw ad na ma mm) s.heap H locs → lv_has ls 4 [(3, .int (nI k)), (2, .int (zIt (zEgS S.1.2.2) k (S.1.2.2 11 14))), (0, .ref (ma 0)), (1, .int (nI n))] → W p l e ({ frames := 2, cells := 0, slots := 0, locals := 42 } : Room) s m ([.ref (ma 0), .int (nI n)] : List Value).toArray below meth c H locs 0 0 (MQ below (zQi G (zEg n S.1.2.2) (zLW G ad na ma mm S f) (zAw ad na ma mm)) ([.ref (ma 0), .int (nI n)] : List Value).toArray s 0 0 (zAw ad na ma mm)) (F0 m 7 ls []) := by
    intro f1
    induction f1 with
    | zero => intro k H locs ls h1 h2; exact absurd h2 (by omega)
    | succ f1 ih1 =>
      intro k H locs ls hk1 hf1 hW hS hl
      generalize hF_v : zIt (zEgS S.1.2.2) k (S.1.2.2 11 14) = v at hW hl 
      refine lv_iload_n hx hb dL_energy_7 rfl (lv_at hl 0 rfl) ?_
      refine lv_iload_n hx hb dL_energy_8 rfl (lv_at hl 3 rfl) ?_
      refine lv_icmp_ge (tgt := 26) hx hb dL_energy_9 (by decide) (fun c_1 => ?_) (fun c_2 => ?_)
      · skip
        have c_1 := (z_leI (a := n) (b := k) (by omega) (by omega)).mp c_1
        have hkn1 : k = n := by omega
        rw [hkn1] at hF_v
        subst hF_v
        refine lv_iload_n hx hb dL_energy_26 rfl (lv_at hl 1 rfl) ?_
        refine z_top (x2 := zEg n S.1.2.2) (rfl) ?_
        exact z_iret hx hb hr hlk hK hS (hW) dL_energy_27
      · skip
        have c_2 := (not_congr (z_leI (a := n) (b := k) (by omega) (by omega))).mp c_2
        refine lv_iload_n hx hb dL_energy_12 rfl (lv_at hl 1 rfl) ?_
        refine lv_aload_n hx hb dL_energy_13 rfl (lv_at hl 2 rfl) ?_
        refine lv_iload_n hx hb dL_energy_14 rfl (lv_at hl 0 rfl) ?_
        refine z_vi (As := [.int (nI k)]) (rest := [.int v]) (P2 := zLW G ad na ma mm S f) (r := S.1.2.2 2 k) CF (z_lw hmm f (s_X4_battery l G ad na ma hd S hO k (by omega))) (cwV 1 hts gL_energy_X4_battery rfl rfl rfl (by decide +kernel) ⟨Nat.le_of_ble_eq_true rfl, Nat.le_of_ble_eq_true rfl⟩) (zCP.rcv hK hW.1) hW hK hS (fun q _ h => hA q h) hA hl.1 rfl rfl (Nat.le_of_ble_eq_true rfl) dL_energy_15 ⟨Nat.le_refl _, Nat.le_refl _⟩ (fun H locs hW hS _ => ?_)
        refine lv_iadd hx hb dL_energy_18 ?_
        refine lv_istore_n (lv' := [(2, .int (v + (S.1.2.2 2 k))), (3, .int (nI k)), (0, .ref (ma 0)), (1, .int (nI n))]) hx hb dL_energy_19 rfl hl (by decide) rfl (fun ls hl => ?_)
        refine lv_iinc (v := nI (k + 1)) (lv' := [(3, .int (nI (k + 1))), (2, .int (v + (S.1.2.2 2 k))), (0, .ref (ma 0)), (1, .int (nI n))]) hx hb dL_energy_20 hl (k := 1) rfl (nI_1 _) (by decide) rfl (fun ls hl => ?_)
        refine lv_goto (tgt := 7) hx hb dL_energy_23 (by decide) ?_
        have e_3 : zIt (zEgS S.1.2.2) (k + 1) (S.1.2.2 11 14) = v + (S.1.2.2 2 k) := by
          rw [zIt_s, hF_v] <;> (first | with_reducible rfl | (simp only [zEgS, c_2, eq_self, ne_eq, not_true_eq_false, not_false_eq_true, and_true, true_and, and_self, and_false, false_and, true_or, or_true, false_or, or_false, reduceIte]; done) | (simp [zEgS, c_2]; done) | rfl | (simp_all [zEgS]; done))
        refine ih1 (k + 1) _ _ _ (by omega) (by omega) ?_ hS ?_
        · first | exact hW | (rw [e_3]; exact hW)
        · first | exact lv_sub hl [0, 1, 2, 3] rfl | (rw [e_3]; exact lv_sub hl [0, 1, 2, 3] rfl)
  exact loop1 (n + 1) 0 _ _ _ (by omega) (by omega) hW hS (lv_sub hl [0, 1, 2, 3] rfl)
