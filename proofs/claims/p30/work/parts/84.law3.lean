/-! rows laid by my own program (wip/p30/gen): the law from its sensors to its loop -/
theorem zLW_of {G : zG} {ad : Nat → Nat} {na : Nat → Nat → Nat} {ma : Nat → Nat} {mm : Nat} {S S2 : zSg} {f : Nat → Int32} {H H1 : Heap} (hmm : ¬ zAll ad na ma mm) (hW : zLW G ad na ma mm S f H) (hC : zCP G ad na ma S2 H1) (hF : H.size ≤ H1.size ∧ ∀ q : Nat, q < H.size → ¬ zAll ad na ma q → H1[q]? = H[q]?) : zLW G ad na ma mm S2 f H1 := ⟨hC, (hF.2 mm hW.lt hmm).trans hW.2⟩
/-- the settings that the law makes -/
theorem zSe_law {g1 g2 g3 : Nat → Int32} {c0 d0 : Nat} {r : Int32} (hc : c0 < 7) (hd0 : d0 < 500) (e1 : g1 = upd zg0 3 (nI (2 + c0))) (e2 : g2 = upd g1 8 r) (e3 : g3 = upd g2 5 (nI (1 + d0))) : zSe g3 ∧ g3 3 = nI (2 + c0) := by
  subst e1
  subst e2
  subst e3
  refine ⟨⟨rfl, rfl, rfl, rfl, rfl, ⟨2 + c0, by omega, by omega, rfl⟩, 1 + d0, by omega, by omega, rfl⟩, rfl⟩
theorem zOk_g {S : zSg} (hO : zOk S) {j : Nat} {v : Int32} (h : 0 < v) : zOk (zSsS S j v) := by
  refine zSs_ok hO j v ?_ ?_
  · unfold upd
    split
    · exact h
    · exact hO.1.2.1
  · unfold upd
    split
    · exact h
    · exact hO.1.2.2.1
theorem zOk_g8 {S : zSg} (hO : zOk S) {v : Int32} : zOk (zSsS S 5 v) := zSs_ok hO 5 v hO.1.2.1 hO.1.2.2.1
set_option maxHeartbeats 4000000 in
set_option maxRecDepth 100000 in
theorem zGo {p : Program} {l : Launch} {e : Env} {s : State} {m : MethodId} {below : List Frame} {meth : Method} {c : Code} {b L : Nat} {xs : Nat → Int32} {G : zG} {ad : Nat → Nat} {na : Nat → Nat → Nat} {ma : Nat → Nat} {mm : Nat} (hL : L ≤ 260) (C0 : lw_At p s m meth c b L xs) (Fx : zFx G ad na ma mm s) {S : zSg} (hO : zOk S) (hS1 : S.1 = (0, zg0, zτ0)) {f : Nat → Int32} {H : Heap} {locs : List Loc} {ls : Array Slot} (hW : zLW G ad na ma mm S f H) (hS : va_S (zLa s) s.heap H locs) (hl : lv_has ls 15 [(0, .ref b), (1, .ref (ma 0)), (2, .ref mm)]) : W p l e room_1 s m #[Value.ref b] below meth c H locs 600000 7302250 (lw_Z below #[Value.ref b] s) (F0 m 13 ls []) := by
  obtain ⟨hx, hb, hr, hml, hown, hts0, hX0, hbl, hlocks, hgv⟩ := id C0
  obtain ⟨hK, hd, hmm, hA, hT⟩ := id Fx
  have hts : ∀ w ∈ wsL_law, w.before #[Value.ref b] s = true := fun w hw => hts0 w (wsL_law_in w hw)
  have CF : CallFix p m c cL_law 15 s #[Value.ref b] wsL_law RL := ⟨hx, hb, hml, hown, hts⟩
  have hX : va_X b L xs s s.heap ∧ b < s.heap.size := ⟨hX0, hbl⟩
  have hbA : ¬ zLa s b := Nat.not_le.mpr hbl
  have hbW : ¬ zAw ad na ma mm b := fun q => hbA (hA b q)
  obtain ⟨j, hj, ej⟩ := zLo_lt (zCe L xs 0) (d := 9) (by decide) (by decide)
  have hl : lv_has ls 15 [(0, .ref b), (1, .ref (ma 0)), (2, .ref mm)] := hl
  refine lv_aload_n hx hb dL_law_13 rfl (lv_at hl 1 rfl) ?_
  refine lv_aload_n hx hb dL_law_14 rfl (lv_at hl 0 rfl) ?_
  refine lv_iconst (v := 0) hx hb dL_law_15 (by decide) ?_
  refine lv_aload_n hx hb dL_law_16 rfl (lv_at hl 2 rfl) ?_
  refine z_siX (As := [.ref (ma 0), .ref b, .int 0, .ref mm]) (rest := []) (P2 := (fun H => ∃ (S2 : zSg) (f2 : Nat → Int32), zSn (1 + j) S2 f2 ∧ zLW G ad na ma mm S2 f2 H)) (r := nI (1 + j)) CF (l_sensors l G ad na ma hd mm hmm b L xs hbW hL S hO hS1 f j hj ej) (cwS 4 hts gL_law_L_sensors rfl rfl rfl (by decide +kernel) ⟨Nat.le_of_ble_eq_true rfl, Nat.le_of_ble_eq_true rfl⟩) hW hK hX hbA hS hA hl.1 rfl rfl (Nat.le_of_ble_eq_true rfl) dL_law_17 ⟨Nat.le_of_ble_eq_true rfl, Nat.le_of_ble_eq_true rfl⟩ (fun H locs hW hS _ => ?_)
  obtain ⟨S1, f1, hZ, hW⟩ := hW
  have hO := hZ.1
  refine lv_istore_n (lv' := [(3, .int (nI (1 + j))), (0, .ref b), (1, .ref (ma 0)), (2, .ref mm)]) hx hb dL_law_20 rfl hl (by decide) rfl (fun ls hl => ?_)
  refine lv_iload_n hx hb dL_law_21 rfl (lv_at hl 0 rfl) ?_
  refine lv_if_ge (tgt := 27) hx hb dL_law_22 (by decide) (fun _ => ?_) (fun q => absurd (nI_pos' (by omega)) q)
  refine lv_iconst (v := 2) hx hb dL_law_27 (by decide) ?_
  refine lv_aload_n hx hb dL_law_28 rfl (lv_at hl 1 rfl) ?_
  refine lv_bipush (v := 11) hx hb dL_law_29 (by decide) ?_
  refine z_siX (As := [.ref b, .int 11]) (rest := [.int 2]) (P2 := zLW G ad na ma mm S1 f1) (r := zCe L xs 11) CF (l_cell l G (zAw ad na ma mm) b L xs hbW hL (zLW G ad na ma mm S1 f1) 11 (by omega)) (cwS 2 hts gL_law_L_cell rfl rfl rfl (by decide +kernel) ⟨Nat.le_of_ble_eq_true rfl, Nat.le_of_ble_eq_true rfl⟩) hW hK hX hbA hS hA hl.1 rfl rfl (Nat.le_of_ble_eq_true rfl) dL_law_31 ⟨Nat.le_of_ble_eq_true rfl, Nat.le_of_ble_eq_true rfl⟩ (fun H locs hW hS _ => ?_)
  refine lv_bipush (v := 7) hx hb dL_law_34 (by decide) ?_
  refine z_si (As := [.int (zCe L xs 11), .int 7]) (rest := [.int 2]) (P2 := zLW G ad na ma mm S1 f1) (r := zLo (zCe L xs 11) 7) CF (l_low l G (zAw ad na ma mm) (zLW G ad na ma mm S1 f1) (zCe L xs 11) 7 (by decide)) (cwS 2 hts gL_law_L_low rfl rfl rfl (by decide +kernel) ⟨Nat.le_of_ble_eq_true rfl, Nat.le_of_ble_eq_true rfl⟩) hW hK hS (fun q _ h => hA q h) hA hl.1 rfl rfl (Nat.le_of_ble_eq_true rfl) dL_law_36 ⟨Nat.le_of_ble_eq_true rfl, Nat.le_of_ble_eq_true rfl⟩ (fun H locs hW hS _ => ?_)
  obtain ⟨c0, hc0, ec0⟩ := zLo_lt (zCe L xs 11) (d := 7) (by decide) (by decide)
  refine z_top (x2 := nI c0) (ec0) ?_
  refine lv_iadd hx hb dL_law_39 ?_
  refine z_top (x2 := nI (2 + c0)) (nI_add 2 c0) ?_
  refine lv_istore (lv' := [(4, .int (nI (2 + c0))), (3, .int (nI (1 + j))), (0, .ref b), (1, .ref (ma 0)), (2, .ref mm)]) hx hb dL_law_40 hl (by decide) rfl (fun ls hl => ?_)
  refine lv_aload_n hx hb dL_law_42 rfl (lv_at hl 3 rfl) ?_
  refine lv_iconst (v := 0) hx hb dL_law_43 (by decide) ?_
  refine lv_iload hx hb dL_law_44 (lv_at hl 0 rfl) ?_
  refine z_viT (As := [.int 0, .int (nI (2 + c0))]) (rest := []) CF (s_X4_setSetting l G ad na ma hd S1 hO 0 (by decide) (nI (2 + c0)) ⟨nI_nlt (a := (2 + c0)) (b := 2) (by omega) (by omega), nI_nlt (a := 8) (b := (2 + c0)) (by omega) (by omega)⟩) (cwV 2 hts gL_law_X4_setSetting rfl rfl rfl (by decide +kernel) ⟨Nat.le_of_ble_eq_true rfl, Nat.le_of_ble_eq_true rfl⟩) (zCP.rcv hK hW.1) hW.1 hK hT hS (fun q h => hA q (Or.inl h)) hl.1 rfl rfl (Nat.le_of_ble_eq_true rfl) dL_law_46 ⟨Nat.le_of_ble_eq_true rfl, Nat.le_of_ble_eq_true rfl⟩ (fun H2 locs2 hC2 hS2 hF2 => ?_)
  have hW := zLW_of hmm hW hC2 hF2
  have hS := hS2
  have hO := zOk_g hO (j := 0) (v := nI (2 + c0)) (nI_lt (a := 0) (by omega) (by omega))
  have es_1 := zSsS_1 S1 0 (nI (2 + c0))
  generalize zSsS S1 0 (nI (2 + c0)) = S_1 at hW hO es_1 hC2
  generalize zSsR S1 0 (nI (2 + c0)) = rr_1
  refine lv_pop hx hb dL_law_49 rfl ?_
  refine lv_aload_n hx hb dL_law_50 rfl (lv_at hl 3 rfl) ?_
  refine lv_iconst (v := 5) hx hb dL_law_51 (by decide) ?_
  refine lv_aload_n hx hb dL_law_52 rfl (lv_at hl 2 rfl) ?_
  refine lv_bipush (v := 11) hx hb dL_law_53 (by decide) ?_
  refine z_siX (As := [.ref b, .int 11]) (rest := [.int 5, .ref (ma 0)]) (P2 := zLW G ad na ma mm S_1 f1) (r := zCe L xs 11) CF (l_cell l G (zAw ad na ma mm) b L xs hbW hL (zLW G ad na ma mm S_1 f1) 11 (by omega)) (cwS 2 hts gL_law_L_cell rfl rfl rfl (by decide +kernel) ⟨Nat.le_of_ble_eq_true rfl, Nat.le_of_ble_eq_true rfl⟩) hW hK hX hbA hS hA hl.1 rfl rfl (Nat.le_of_ble_eq_true rfl) dL_law_55 ⟨Nat.le_of_ble_eq_true rfl, Nat.le_of_ble_eq_true rfl⟩ (fun H locs hW hS _ => ?_)
  refine lv_iconst (v := 4) hx hb dL_law_58 (by decide) ?_
  refine lv_ishr hx hb dL_law_59 ?_
  refine lv_iconst (v := 1) hx hb dL_law_60 (by decide) ?_
  refine lv_iand hx hb dL_law_61 ?_
  obtain ⟨r0, hr0, er0⟩ := pk_andE ((zCe L xs 11) >>> (4 &&& 31)) (m := 1) 1 (by decide)
  refine z_top (x2 := nI r0) (er0) ?_
  refine z_viT (As := [.int 5, .int (nI r0)]) (rest := []) CF (s_X4_setSetting l G ad na ma hd S_1 hO 5 (by decide) (nI r0) ⟨nI_nlt (a := r0) (b := 0) (by omega) (by omega), nI_nlt (a := 1) (b := r0) (by omega) (by omega)⟩) (cwV 2 hts gL_law_X4_setSetting rfl rfl rfl (by decide +kernel) ⟨Nat.le_of_ble_eq_true rfl, Nat.le_of_ble_eq_true rfl⟩) (zCP.rcv hK hW.1) hW.1 hK hT hS (fun q h => hA q (Or.inl h)) hl.1 rfl rfl (Nat.le_of_ble_eq_true rfl) dL_law_62 ⟨Nat.le_of_ble_eq_true rfl, Nat.le_of_ble_eq_true rfl⟩ (fun H2 locs2 hC2 hS2 hF2 => ?_)
  have hW := zLW_of hmm hW hC2 hF2
  have hS := hS2
  have hO := zOk_g8 hO (v := nI r0)
  have es_2 := zSsS_1 S_1 5 (nI r0)
  generalize zSsS S_1 5 (nI r0) = S_2 at hW hO es_2 hC2
  generalize zSsR S_1 5 (nI r0) = rr_2
  refine lv_pop hx hb dL_law_65 rfl ?_
  refine lv_aload_n hx hb dL_law_66 rfl (lv_at hl 3 rfl) ?_
  refine lv_iconst (v := 2) hx hb dL_law_67 (by decide) ?_
  refine lv_iconst (v := 1) hx hb dL_law_68 (by decide) ?_
  refine lv_aload_n hx hb dL_law_69 rfl (lv_at hl 2 rfl) ?_
  refine lv_bipush (v := 11) hx hb dL_law_70 (by decide) ?_
  refine z_siX (As := [.ref b, .int 11]) (rest := [.int 1, .int 2, .ref (ma 0)]) (P2 := zLW G ad na ma mm S_2 f1) (r := zCe L xs 11) CF (l_cell l G (zAw ad na ma mm) b L xs hbW hL (zLW G ad na ma mm S_2 f1) 11 (by omega)) (cwS 2 hts gL_law_L_cell rfl rfl rfl (by decide +kernel) ⟨Nat.le_of_ble_eq_true rfl, Nat.le_of_ble_eq_true rfl⟩) hW hK hX hbA hS hA hl.1 rfl rfl (Nat.le_of_ble_eq_true rfl) dL_law_72 ⟨Nat.le_of_ble_eq_true rfl, Nat.le_of_ble_eq_true rfl⟩ (fun H locs hW hS _ => ?_)
  refine lv_iconst (v := 5) hx hb dL_law_75 (by decide) ?_
  refine lv_ishr hx hb dL_law_76 ?_
  refine lv_sipush (v := 500) hx hb dL_law_77 (by decide) ?_
  refine z_si (As := [.int ((zCe L xs 11) >>> (5 &&& 31)), .int 500]) (rest := [.int 1, .int 2, .ref (ma 0)]) (P2 := zLW G ad na ma mm S_2 f1) (r := zLo ((zCe L xs 11) >>> (5 &&& 31)) 500) CF (l_low l G (zAw ad na ma mm) (zLW G ad na ma mm S_2 f1) ((zCe L xs 11) >>> (5 &&& 31)) 500 (by decide)) (cwS 2 hts gL_law_L_low rfl rfl rfl (by decide +kernel) ⟨Nat.le_of_ble_eq_true rfl, Nat.le_of_ble_eq_true rfl⟩) hW hK hS (fun q _ h => hA q h) hA hl.1 rfl rfl (Nat.le_of_ble_eq_true rfl) dL_law_80 ⟨Nat.le_of_ble_eq_true rfl, Nat.le_of_ble_eq_true rfl⟩ (fun H locs hW hS _ => ?_)
  obtain ⟨d0, hd0, ed0⟩ := zLo_lt ((zCe L xs 11) >>> (5 &&& 31)) (d := 500) (by decide) (by decide)
  refine z_top (x2 := nI d0) (ed0) ?_
  refine lv_iadd hx hb dL_law_83 ?_
  refine z_top (x2 := nI (1 + d0)) (nI_add 1 d0) ?_
  refine z_viT (As := [.int 2, .int (nI (1 + d0))]) (rest := []) CF (s_X4_setSetting l G ad na ma hd S_2 hO 2 (by decide) (nI (1 + d0)) ⟨nI_nlt (a := (1 + d0)) (b := 1) (by omega) (by omega), nI_nlt (a := 1000) (b := (1 + d0)) (by omega) (by omega)⟩) (cwV 2 hts gL_law_X4_setSetting rfl rfl rfl (by decide +kernel) ⟨Nat.le_of_ble_eq_true rfl, Nat.le_of_ble_eq_true rfl⟩) (zCP.rcv hK hW.1) hW.1 hK hT hS (fun q h => hA q (Or.inl h)) hl.1 rfl rfl (Nat.le_of_ble_eq_true rfl) dL_law_84 ⟨Nat.le_of_ble_eq_true rfl, Nat.le_of_ble_eq_true rfl⟩ (fun H2 locs2 hC2 hS2 hF2 => ?_)
  have hW := zLW_of hmm hW hC2 hF2
  have hS := hS2
  have hO := zOk_g hO (j := 2) (v := nI (1 + d0)) (nI_lt (a := 0) (by omega) (by omega))
  have es_3 := zSsS_1 S_2 2 (nI (1 + d0))
  generalize zSsS S_2 2 (nI (1 + d0)) = S_3 at hW hO es_3 hC2
  generalize zSsR S_2 2 (nI (1 + d0)) = rr_3
  refine lv_pop hx hb dL_law_87 rfl ?_
  refine lv_aload_n hx hb dL_law_88 rfl (lv_at hl 3 rfl) ?_
  refine lv_aload_n hx hb dL_law_89 rfl (lv_at hl 2 rfl) ?_
  refine lv_bipush (v := 12) hx hb dL_law_90 (by decide) ?_
  refine z_siX (As := [.ref b, .int 12]) (rest := [.ref (ma 0)]) (P2 := zLW G ad na ma mm S_3 f1) (r := zCe L xs 12) CF (l_cell l G (zAw ad na ma mm) b L xs hbW hL (zLW G ad na ma mm S_3 f1) 12 (by omega)) (cwS 2 hts gL_law_L_cell rfl rfl rfl (by decide +kernel) ⟨Nat.le_of_ble_eq_true rfl, Nat.le_of_ble_eq_true rfl⟩) hW hK hX hbA hS hA hl.1 rfl rfl (Nat.le_of_ble_eq_true rfl) dL_law_92 ⟨Nat.le_of_ble_eq_true rfl, Nat.le_of_ble_eq_true rfl⟩ (fun H locs hW hS _ => ?_)
  refine lv_ldc (v := 2147483647) hx hb hown (hts _ (List.mem_of_getElem? (i := 4) (by decide +kernel))) dL_law_95 ?_
  refine lv_iand hx hb dL_law_97 ?_
  obtain ⟨x0, hx0, ex0⟩ := pk_andE (zCe L xs 12) (m := 2147483647) 31 (by decide)
  refine z_top (x2 := nI x0) (ex0) ?_
  refine z_vi (As := [.int (nI x0)]) (rest := []) (P2 := zLW G ad na ma mm (zPu S_3 (S_3.1.1, S_3.1.2.1, zSt S_3.1.2.2 11 9 (nI x0))) f1) (r := S_3.1.2.2 11 10) CF (z_lw hmm f1 (s_X4_setGenerator l G ad na ma hd S_3 hO (nI x0) (nI_pos (by omega)))) (cwV 1 hts gL_law_X4_setGenerator rfl rfl rfl (by decide +kernel) ⟨Nat.le_of_ble_eq_true rfl, Nat.le_of_ble_eq_true rfl⟩) (zCP.rcv hK hW.1) hW hK hS (fun q _ h => hA q h) hA hl.1 rfl rfl (Nat.le_of_ble_eq_true rfl) dL_law_98 ⟨Nat.le_of_ble_eq_true rfl, Nat.le_of_ble_eq_true rfl⟩ (fun H locs hW hS _ => ?_)
  refine lv_pop hx hb dL_law_101 rfl ?_
  have h11 : S_3.1.1 = 1 + j := by rw [es_3, es_2, es_1]; exact hZ.2.1
  have hg := zSe_law (c0 := c0) (d0 := d0) hc0 hd0 (show S_1.1.2.1 = _ by rw [es_1, hZ.2.2.1]) (show S_2.1.2.1 = _ by rw [es_2]) (show S_3.1.2.1 = _ by rw [es_3])
  have hτ3 : S_3.1.2.2 = S1.1.2.2 := by rw [es_3, es_2, es_1]
  have hO := zPu_ok hO (t := (S_3.1.1, S_3.1.2.1, zSt S_3.1.2.2 11 9 (nI x0))) ⟨hO.1.1, hO.1.2.1, hO.1.2.2.1, by show 0 ≤ zSt S_3.1.2.2 11 9 (nI x0) 11 9; rw [zSt_self]; exact nI_pos' (by omega)⟩
  have hLI := zLI.start (S := zPu S_3 (S_3.1.1, S_3.1.2.1, zSt S_3.1.2.2 11 9 (nI x0))) hZ hO h11 hg.1 hg.2 (nI x0) (by show zSt S_3.1.2.2 11 9 (nI x0) = _; rw [hτ3])
  generalize zPu S_3 (S_3.1.1, S_3.1.2.1, zSt S_3.1.2.2 11 9 (nI x0)) = S_4 at hW hO hLI
  have hn := hLI.2.1
  refine lv_aload_n hx hb dL_law_102 rfl (lv_at hl 3 rfl) ?_
  refine lv_iload_n hx hb dL_law_103 rfl (lv_at hl 1 rfl) ?_
  refine z_si (As := [.ref (ma 0), .int (nI (1 + j))]) (rest := []) (P2 := zLW G ad na ma mm S_4 f1) (r := zEg (1 + j) S_4.1.2.2) CF (l_energy l G ad na ma hd mm hmm S_4 hO f1 (1 + j) hn (by omega)) (cwS 2 hts gL_law_L_energy rfl rfl rfl (by decide +kernel) ⟨Nat.le_of_ble_eq_true rfl, Nat.le_of_ble_eq_true rfl⟩) hW hK hS (fun q _ h => hA q h) hA hl.1 rfl rfl (Nat.le_of_ble_eq_true rfl) dL_law_104 ⟨Nat.le_of_ble_eq_true rfl, Nat.le_of_ble_eq_true rfl⟩ (fun H locs hW hS _ => ?_)
  refine lv_istore (lv' := [(5, .int (zEg (1 + j) S_4.1.2.2)), (4, .int (nI (2 + c0))), (3, .int (nI (1 + j))), (0, .ref b), (1, .ref (ma 0)), (2, .ref mm)]) hx hb dL_law_107 hl (by decide) rfl (fun ls hl => ?_)
  refine lv_iconst (v := 0) hx hb dL_law_109 (by decide) ?_
  refine lv_istore (lv' := [(6, .int 0), (5, .int (zEg (1 + j) S_4.1.2.2)), (4, .int (nI (2 + c0))), (3, .int (nI (1 + j))), (0, .ref b), (1, .ref (ma 0)), (2, .ref mm)]) hx hb dL_law_110 hl (by decide) rfl (fun ls hl => ?_)
  refine lv_iconst (v := 0) hx hb dL_law_112 (by decide) ?_
  refine lv_istore (lv' := [(7, .int 0), (6, .int 0), (5, .int (zEg (1 + j) S_4.1.2.2)), (4, .int (nI (2 + c0))), (3, .int (nI (1 + j))), (0, .ref b), (1, .ref (ma 0)), (2, .ref mm)]) hx hb dL_law_113 hl (by decide) rfl (fun ls hl => ?_)
  refine lv_iconst (v := 0) hx hb dL_law_115 (by decide) ?_
  refine lv_istore (lv' := [(8, .int 0), (7, .int 0), (6, .int 0), (5, .int (zEg (1 + j) S_4.1.2.2)), (4, .int (nI (2 + c0))), (3, .int (nI (1 + j))), (0, .ref b), (1, .ref (ma 0)), (2, .ref mm)]) hx hb dL_law_116 hl (by decide) rfl (fun ls hl => ?_)
  exact zLoop hL C0 Fx (n := 1 + j) (cyc := 2 + c0) (by omega) (by omega) (by omega) 25 0 (by decide) (by decide) S_4 _ 0 0 _ _ _ hLI hW hS (lv_sub hl [6, 7, 8, 5, 4, 3, 2, 1, 0] rfl)
