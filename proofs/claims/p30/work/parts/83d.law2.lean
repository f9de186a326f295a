/-! rows laid by my own program (wip/p30/gen): a charge, the end, the loop -/
set_option maxHeartbeats 4000000 in
set_option maxRecDepth 100000 in
theorem zB3 {p : Program} {l : Launch} {e : Env} {s : State} {m : MethodId} {below : List Frame} {meth : Method} {c : Code} {b L : Nat} {xs : Nat → Int32} {G : zG} {ad : Nat → Nat} {na : Nat → Nat → Nat} {ma : Nat → Nat} {mm : Nat} (hL : L ≤ 260) (C0 : lw_At p s m meth c b L xs) (Fx : zFx G ad na ma mm s) {n cyc : Nat} (hn9 : n ≤ 9) (hn1 : 1 ≤ n) (hcy : 2 ≤ cyc ∧ cyc ≤ 8) {t : Nat} (ht : t < 24) {S : zSg} {f : Nat → Int32} {gv bn tt : Int32} (hLI : zLI n cyc (t + 1) S f gv bn tt) {H : Heap} {locs : List Loc} {ls : Array Slot} (hW : zLW G ad na ma mm S f H) (hS : va_S (zLa s) s.heap H locs) (hl : lv_has ls 15 [(0, .ref b), (1, .ref (ma 0)), (2, .ref mm), (3, .int (nI n)), (4, .int (nI cyc)), (5, .int gv), (6, .int bn), (7, .int tt), (8, .int (nI t))]) (kk : ∀ (S2 : zSg) (gv2 bn2 tt2 : Int32) (H : Heap) (locs : List Loc) (ls : Array Slot), zLI n cyc (t + 1) S2 f gv2 bn2 tt2 → zLW G ad na ma mm S2 f H → va_S (zLa s) s.heap H locs → lv_has ls 15 [(0, .ref b), (1, .ref (ma 0)), (2, .ref mm), (3, .int (nI n)), (4, .int (nI cyc)), (5, .int gv2), (6, .int bn2), (7, .int tt2), (8, .int (nI (t + 1)))] → W p l e room_1 s m #[Value.ref b] below meth c H locs 600000 7302250 (lw_Z below #[Value.ref b] s) (F0 m 118 ls [])) : W p l e room_1 s m #[Value.ref b] below meth c H locs 600000 7302250 (lw_Z below #[Value.ref b] s) (F0 m 412 ls []) := by
  obtain ⟨hx, hb, hr, hml, hown, hts0, hX0, hbl, hlocks, hgv⟩ := id C0
  obtain ⟨hK, hd, hmm, hA, hT⟩ := id Fx
  have hts : ∀ w ∈ wsL_law, w.before #[Value.ref b] s = true := fun w hw => hts0 w (wsL_law_in w hw)
  have CF : CallFix p m c cL_law 15 s #[Value.ref b] wsL_law RL := ⟨hx, hb, hml, hown, hts⟩
  have hX : va_X b L xs s s.heap ∧ b < s.heap.size := ⟨hX0, hbl⟩
  have hbA : ¬ zLa s b := Nat.not_le.mpr hbl
  have hbW : ¬ zAw ad na ma mm b := fun q => hbA (hA b q)
  have hO := hLI.1
  have hn := hLI.2.1
  have hl : lv_has ls 15 [(0, .ref b), (1, .ref (ma 0)), (2, .ref mm), (3, .int (nI n)), (4, .int (nI cyc)), (5, .int gv), (6, .int bn), (7, .int tt), (8, .int (nI t))] := hl
  refine lv_iload hx hb dL_law_412 (lv_at hl 8 rfl) ?_
  refine lv_iconst (v := 5) hx hb dL_law_414 (by decide) ?_
  refine lv_irem hx hb dL_law_415 (by decide) ?_
  refine z_top (x2 := nI (t % 5)) (pk_rem (d := 5) (by omega) (by decide) (by decide)) ?_
  refine lv_iconst (v := 4) hx hb dL_law_416 (by decide) ?_
  refine lv_icmp_ne (tgt := 475) hx hb dL_law_417 (by decide) (fun c_1 => ?_) (fun c_2 => ?_)
  · skip
    have c_1 := (not_congr (z_eqI (a := t % 5) (b := 4) (by omega) (by omega))).mp c_1
    refine lv_iinc (v := nI (t + 1)) (lv' := [(8, .int (nI (t + 1))), (0, .ref b), (1, .ref (ma 0)), (2, .ref mm), (3, .int (nI n)), (4, .int (nI cyc)), (5, .int gv), (6, .int bn), (7, .int tt)]) hx hb dL_law_475 hl (k := 8) rfl (nI_1 _) (by decide) rfl (fun ls hl => ?_)
    refine lv_goto (tgt := 118) hx hb dL_law_478 (by decide) ?_
    exact kk S _ _ _ _ _ _ hLI hW hS (lv_sub hl [1, 2, 3, 4, 5, 6, 7, 8, 0] rfl)
  · skip
    have c_2 := (z_eqI (a := t % 5) (b := 4) (by omega) (by omega)).mp c_2
    refine lv_aload_n hx hb dL_law_420 rfl (lv_at hl 0 rfl) ?_
    refine lv_bipush (v := 13) hx hb dL_law_421 (by decide) ?_
    refine lv_iload hx hb dL_law_423 (lv_at hl 8 rfl) ?_
    refine lv_iconst (v := 5) hx hb dL_law_425 (by decide) ?_
    refine lv_idiv hx hb dL_law_426 (by decide) ?_
    refine z_top (x2 := nI (t / 5)) (pk_div (d := 5) (by omega) (by decide) (by decide)) ?_
    refine lv_iadd hx hb dL_law_427 ?_
    refine z_top (x2 := nI (13 + (t / 5))) (nI_add 13 (t / 5)) ?_
    refine z_siX (As := [.ref b, .int (nI (13 + (t / 5)))]) (rest := []) (P2 := zLW G ad na ma mm S f) (r := zCe L xs (13 + (t / 5))) CF (l_cell l G (zAw ad na ma mm) b L xs hbW hL (zLW G ad na ma mm S f) (13 + (t / 5)) (by omega)) (cwS 2 hts gL_law_L_cell rfl rfl rfl (by decide +kernel) ⟨Nat.le_of_ble_eq_true rfl, Nat.le_of_ble_eq_true rfl⟩) hW hK hX hbA hS hA hl.1 rfl rfl (Nat.le_of_ble_eq_true rfl) dL_law_428 ⟨Nat.le_of_ble_eq_true rfl, Nat.le_of_ble_eq_true rfl⟩ (fun H locs hW hS _ => ?_)
    refine lv_iload_n hx hb dL_law_431 rfl (lv_at hl 3 rfl) ?_
    refine z_si (As := [.int (zCe L xs (13 + (t / 5))), .int (nI n)]) (rest := []) (P2 := zLW G ad na ma mm S f) (r := zLo (zCe L xs (13 + (t / 5))) (nI n)) CF (l_low l G (zAw ad na ma mm) (zLW G ad na ma mm S f) (zCe L xs (13 + (t / 5))) (nI n) (nI_ne0 (by omega) (by omega))) (cwS 2 hts gL_law_L_low rfl rfl rfl (by decide +kernel) ⟨Nat.le_of_ble_eq_true rfl, Nat.le_of_ble_eq_true rfl⟩) hW hK hS (fun q _ h => hA q h) hA hl.1 rfl rfl (Nat.le_of_ble_eq_true rfl) dL_law_432 ⟨Nat.le_of_ble_eq_true rfl, Nat.le_of_ble_eq_true rfl⟩ (fun H locs hW hS _ => ?_)
    obtain ⟨a, ha, ea⟩ := zLo_lt (zCe L xs (13 + (t / 5))) (d := n) (by omega) (by omega)
    refine z_top (x2 := nI a) (ea) ?_
    refine lv_istore (lv' := [(13, .int (nI a)), (0, .ref b), (1, .ref (ma 0)), (2, .ref mm), (3, .int (nI n)), (4, .int (nI cyc)), (5, .int gv), (6, .int bn), (7, .int tt), (8, .int (nI t))]) hx hb dL_law_435 hl (by decide) rfl (fun ls hl => ?_)
    refine lv_aload_n hx hb dL_law_437 rfl (lv_at hl 2 rfl) ?_
    refine lv_iload hx hb dL_law_438 (lv_at hl 0 rfl) ?_
    refine lv_bipush (v := 50) hx hb dL_law_440 (by decide) ?_
    refine z_vi (As := [.int (nI a), .int 50]) (rest := []) (P2 := zLW G ad na ma mm (zChS S a) f) (r := zChR S a) CF (z_lw hmm f (s_X4_charge l G ad na ma hd S hO a (by omega))) (cwV 2 hts gL_law_X4_charge rfl rfl rfl (by decide +kernel) ⟨Nat.le_of_ble_eq_true rfl, Nat.le_of_ble_eq_true rfl⟩) (zCP.rcv hK hW.1) hW hK hS (fun q _ h => hA q h) hA hl.1 rfl rfl (Nat.le_of_ble_eq_true rfl) dL_law_442 ⟨Nat.le_of_ble_eq_true rfl, Nat.le_of_ble_eq_true rfl⟩ (fun H locs hW hS _ => ?_)
    rcases hLI.chg hn9 ha with ⟨-, er, hI⟩ | ⟨⟨d, hd9, er⟩, hI⟩
    · skip
      refine z_top (x2 := -2) (er) ?_
      generalize zChS S a = S3 at hW hI
      have hO := hI.1
      have hn := hI.2.1
      refine lv_istore (lv' := [(14, .int (-2)), (13, .int (nI a)), (0, .ref b), (1, .ref (ma 0)), (2, .ref mm), (3, .int (nI n)), (4, .int (nI cyc)), (5, .int gv), (6, .int bn), (7, .int tt), (8, .int (nI t))]) hx hb dL_law_445 hl (by decide) rfl (fun ls hl => ?_)
      refine lv_iload hx hb dL_law_447 (lv_at hl 7 rfl) ?_
      refine lv_iload hx hb dL_law_449 (lv_at hl 0 rfl) ?_
      refine lv_if_le (tgt := 459) hx hb dL_law_451 (by decide) (fun _ => ?_) (fun q => absurd (by decide) q)
      refine lv_iconst (v := 0) hx hb dL_law_459 (by decide) ?_
      refine lv_iadd hx hb dL_law_460 ?_
      refine lv_istore (lv' := [(5, .int (gv + 0)), (14, .int (-2)), (13, .int (nI a)), (0, .ref b), (1, .ref (ma 0)), (2, .ref mm), (3, .int (nI n)), (4, .int (nI cyc)), (6, .int bn), (7, .int tt), (8, .int (nI t))]) hx hb dL_law_461 hl (by decide) rfl (fun ls hl => ?_)
      refine lv_aload_n hx hb dL_law_463 rfl (lv_at hl 4 rfl) ?_
      refine lv_iload_n hx hb dL_law_464 rfl (lv_at hl 6 rfl) ?_
      refine z_si (As := [.ref (ma 0), .int (nI n)]) (rest := []) (P2 := zLW G ad na ma mm S3 f) (r := zEg n S3.1.2.2) CF (l_energy l G ad na ma hd mm hmm S3 hO f n hn (by omega)) (cwS 2 hts gL_law_L_energy rfl rfl rfl (by decide +kernel) ⟨Nat.le_of_ble_eq_true rfl, Nat.le_of_ble_eq_true rfl⟩) hW hK hS (fun q _ h => hA q h) hA hl.1 rfl rfl (Nat.le_of_ble_eq_true rfl) dL_law_465 ⟨Nat.le_of_ble_eq_true rfl, Nat.le_of_ble_eq_true rfl⟩ (fun H locs hW hS _ => ?_)
      refine z_top (x2 := gv + 0) (hI.2.2.2.2.2.1.symm) ?_
      refine lv_iload hx hb dL_law_468 (lv_at hl 0 rfl) ?_
      refine lv_icmp_eq (tgt := 475) hx hb dL_law_470 (by decide) (fun _ => ?_) (fun q => absurd rfl q)
      refine lv_iinc (v := nI (t + 1)) (lv' := [(8, .int (nI (t + 1))), (5, .int (gv + 0)), (14, .int (-2)), (13, .int (nI a)), (0, .ref b), (1, .ref (ma 0)), (2, .ref mm), (3, .int (nI n)), (4, .int (nI cyc)), (6, .int bn), (7, .int tt)]) hx hb dL_law_475 hl (k := 10) rfl (nI_1 _) (by decide) rfl (fun ls hl => ?_)
      refine lv_goto (tgt := 118) hx hb dL_law_478 (by decide) ?_
      exact kk S3 _ _ _ _ _ _ hI hW hS (lv_sub hl [4, 5, 6, 7, 8, 1, 9, 10, 0] rfl)
    · skip
      refine z_top (x2 := nI (d + 1)) (er) ?_
      generalize zChS S a = S3 at hW hI
      have hO := hI.1
      have hn := hI.2.1
      refine lv_istore (lv' := [(14, .int (nI (d + 1))), (13, .int (nI a)), (0, .ref b), (1, .ref (ma 0)), (2, .ref mm), (3, .int (nI n)), (4, .int (nI cyc)), (5, .int gv), (6, .int bn), (7, .int tt), (8, .int (nI t))]) hx hb dL_law_445 hl (by decide) rfl (fun ls hl => ?_)
      refine lv_iload hx hb dL_law_447 (lv_at hl 7 rfl) ?_
      refine lv_iload hx hb dL_law_449 (lv_at hl 0 rfl) ?_
      refine lv_if_le (tgt := 459) hx hb dL_law_451 (by decide) (fun q => absurd q (nI_nle (by omega) (by omega))) (fun _ => ?_)
      refine lv_bipush (v := 50) hx hb dL_law_454 (by decide) ?_
      refine lv_goto (tgt := 460) hx hb dL_law_456 (by decide) ?_
      refine lv_iadd hx hb dL_law_460 ?_
      refine lv_istore (lv' := [(5, .int (gv + 50)), (14, .int (nI (d + 1))), (13, .int (nI a)), (0, .ref b), (1, .ref (ma 0)), (2, .ref mm), (3, .int (nI n)), (4, .int (nI cyc)), (6, .int bn), (7, .int tt), (8, .int (nI t))]) hx hb dL_law_461 hl (by decide) rfl (fun ls hl => ?_)
      refine lv_aload_n hx hb dL_law_463 rfl (lv_at hl 4 rfl) ?_
      refine lv_iload_n hx hb dL_law_464 rfl (lv_at hl 6 rfl) ?_
      refine z_si (As := [.ref (ma 0), .int (nI n)]) (rest := []) (P2 := zLW G ad na ma mm S3 f) (r := zEg n S3.1.2.2) CF (l_energy l G ad na ma hd mm hmm S3 hO f n hn (by omega)) (cwS 2 hts gL_law_L_energy rfl rfl rfl (by decide +kernel) ⟨Nat.le_of_ble_eq_true rfl, Nat.le_of_ble_eq_true rfl⟩) hW hK hS (fun q _ h => hA q h) hA hl.1 rfl rfl (Nat.le_of_ble_eq_true rfl) dL_law_465 ⟨Nat.le_of_ble_eq_true rfl, Nat.le_of_ble_eq_true rfl⟩ (fun H locs hW hS _ => ?_)
      refine z_top (x2 := gv + 50) (hI.2.2.2.2.2.1.symm) ?_
      refine lv_iload hx hb dL_law_468 (lv_at hl 0 rfl) ?_
      refine lv_icmp_eq (tgt := 475) hx hb dL_law_470 (by decide) (fun _ => ?_) (fun q => absurd rfl q)
      refine lv_iinc (v := nI (t + 1)) (lv' := [(8, .int (nI (t + 1))), (5, .int (gv + 50)), (14, .int (nI (d + 1))), (13, .int (nI a)), (0, .ref b), (1, .ref (ma 0)), (2, .ref mm), (3, .int (nI n)), (4, .int (nI cyc)), (6, .int bn), (7, .int tt)]) hx hb dL_law_475 hl (k := 10) rfl (nI_1 _) (by decide) rfl (fun ls hl => ?_)
      refine lv_goto (tgt := 118) hx hb dL_law_478 (by decide) ?_
      exact kk S3 _ _ _ _ _ _ hI hW hS (lv_sub hl [4, 5, 6, 7, 8, 1, 9, 10, 0] rfl)
set_option maxHeartbeats 4000000 in
set_option maxRecDepth 100000 in
theorem zT2 {p : Program} {l : Launch} {e : Env} {s : State} {m : MethodId} {below : List Frame} {meth : Method} {c : Code} {b L : Nat} {xs : Nat → Int32} {G : zG} {ad : Nat → Nat} {na : Nat → Nat → Nat} {ma : Nat → Nat} {mm : Nat} (hL : L ≤ 260) (C0 : lw_At p s m meth c b L xs) (Fx : zFx G ad na ma mm s) {n cyc : Nat} (hn9 : n ≤ 9) (hn1 : 1 ≤ n) (hcy : 2 ≤ cyc ∧ cyc ≤ 8) {t : Nat} (ht : t ≤ 24) {S : zSg} {f : Nat → Int32} {gv bn tt : Int32} (hLI : zLI n cyc t S f gv bn tt) {S3 : zSg} (hO : zOk S3) (eS : S3.1 = S.1) {H : Heap} {locs : List Loc} {ls : Array Slot} (hW : zLW G ad na ma mm S3 f H) (hS : va_S (zLa s) s.heap H locs) (hl : lv_has ls 15 [(0, .ref b), (1, .ref (ma 0)), (2, .ref mm), (3, .int (nI n)), (4, .int (nI cyc)), (5, .int gv), (8, .int (S.1.2.2 11 10)), (9, .int (S.1.2.2 11 14))]) : W p l e room_1 s m #[Value.ref b] below meth c H locs 600000 7302250 (lw_Z below #[Value.ref b] s) (F0 m 520 ls []) := by
  obtain ⟨hx, hb, hr, hml, hown, hts0, hX0, hbl, hlocks, hgv⟩ := id C0
  obtain ⟨hK, hd, hmm, hA, hT⟩ := id Fx
  have hts : ∀ w ∈ wsL_law, w.before #[Value.ref b] s = true := fun w hw => hts0 w (wsL_law_in w hw)
  have CF : CallFix p m c cL_law 15 s #[Value.ref b] wsL_law RL := ⟨hx, hb, hml, hown, hts⟩
  have hX : va_X b L xs s s.heap ∧ b < s.heap.size := ⟨hX0, hbl⟩
  have hbA : ¬ zLa s b := Nat.not_le.mpr hbl
  have hbW : ¬ zAw ad na ma mm b := fun q => hbA (hA b q)
  have hI := hLI.to hO eS
  have hn := hI.2.1
  have hcw := hI.cw
  have hl : lv_has ls 15 [(0, .ref b), (1, .ref (ma 0)), (2, .ref mm), (3, .int (nI n)), (4, .int (nI cyc)), (5, .int gv), (8, .int (S.1.2.2 11 10)), (9, .int (S.1.2.2 11 14))] := hl
  refine lv_aload_n hx hb dL_law_520 rfl (lv_at hl 1 rfl) ?_
  refine z_vi (As := []) (rest := []) (P2 := zLW G ad na ma mm S3 f) (r := S3.1.2.2 11 10) CF (z_lw hmm f (s_X4_roundNumber l G ad na ma hd S3 hO)) (cwV 0 hts gL_law_X4_roundNumber rfl rfl rfl (by decide +kernel) ⟨Nat.le_of_ble_eq_true rfl, Nat.le_of_ble_eq_true rfl⟩) (zCP.rcv hK hW.1) hW hK hS (fun q _ h => hA q h) hA hl.1 rfl rfl (Nat.le_of_ble_eq_true rfl) dL_law_521 ⟨Nat.le_of_ble_eq_true rfl, Nat.le_of_ble_eq_true rfl⟩ (fun H locs hW hS _ => ?_)
  refine z_top (x2 := S.1.2.2 11 10) (by rw [eS]) ?_
  refine lv_iload hx hb dL_law_524 (lv_at hl 6 rfl) ?_
  refine lv_icmp_ne (tgt := 561) hx hb dL_law_526 (by decide) (fun q => absurd rfl q) (fun _ => ?_)
  refine lv_aload_n hx hb dL_law_529 rfl (lv_at hl 1 rfl) ?_
  refine z_vi (As := []) (rest := []) (P2 := zLW G ad na ma mm S3 f) (r := S3.1.2.2 11 14) CF (z_lw hmm f (s_X4_energyPaid l G ad na ma hd S3 hO)) (cwV 0 hts gL_law_X4_energyPaid rfl rfl rfl (by decide +kernel) ⟨Nat.le_of_ble_eq_true rfl, Nat.le_of_ble_eq_true rfl⟩) (zCP.rcv hK hW.1) hW hK hS (fun q _ h => hA q h) hA hl.1 rfl rfl (Nat.le_of_ble_eq_true rfl) dL_law_530 ⟨Nat.le_of_ble_eq_true rfl, Nat.le_of_ble_eq_true rfl⟩ (fun H locs hW hS _ => ?_)
  refine z_top (x2 := S.1.2.2 11 14) (by rw [eS]) ?_
  refine lv_iload hx hb dL_law_533 (lv_at hl 7 rfl) ?_
  refine lv_icmp_ne (tgt := 561) hx hb dL_law_535 (by decide) (fun q => absurd rfl q) (fun _ => ?_)
  refine lv_aload_n hx hb dL_law_538 rfl (lv_at hl 1 rfl) ?_
  refine lv_iload_n hx hb dL_law_539 rfl (lv_at hl 3 rfl) ?_
  refine z_si (As := [.ref (ma 0), .int (nI n)]) (rest := []) (P2 := zLW G ad na ma mm S3 f) (r := zEg n S3.1.2.2) CF (l_energy l G ad na ma hd mm hmm S3 hO f n hn (by omega)) (cwS 2 hts gL_law_L_energy rfl rfl rfl (by decide +kernel) ⟨Nat.le_of_ble_eq_true rfl, Nat.le_of_ble_eq_true rfl⟩) hW hK hS (fun q _ h => hA q h) hA hl.1 rfl rfl (Nat.le_of_ble_eq_true rfl) dL_law_540 ⟨Nat.le_of_ble_eq_true rfl, Nat.le_of_ble_eq_true rfl⟩ (fun H locs hW hS _ => ?_)
  refine z_top (x2 := gv) (hI.2.2.2.2.2.1.symm) ?_
  refine lv_iload hx hb dL_law_543 (lv_at hl 5 rfl) ?_
  refine lv_icmp_ne (tgt := 561) hx hb dL_law_545 (by decide) (fun q => absurd rfl q) (fun _ => ?_)
  refine lv_aload_n hx hb dL_law_548 rfl (lv_at hl 1 rfl) ?_
  refine lv_aload_n hx hb dL_law_549 rfl (lv_at hl 2 rfl) ?_
  refine lv_iload_n hx hb dL_law_550 rfl (lv_at hl 3 rfl) ?_
  refine z_si (As := [.ref (ma 0), .ref mm, .int (nI n)]) (rest := []) (P2 := zLW G ad na ma mm S3 f) (r := 1) CF (l_clusters l G ad na ma hd mm hmm S3 hO f n hn hn9 t (by omega) hcw) (cwS 3 hts gL_law_L_clusters rfl rfl rfl (by decide +kernel) ⟨Nat.le_of_ble_eq_true rfl, Nat.le_of_ble_eq_true rfl⟩) hW hK hS (fun q _ h => hA q h) hA hl.1 rfl rfl (Nat.le_of_ble_eq_true rfl) dL_law_551 ⟨Nat.le_of_ble_eq_true rfl, Nat.le_of_ble_eq_true rfl⟩ (fun H locs hW hS _ => ?_)
  refine lv_if_eq (tgt := 561) hx hb dL_law_554 (by decide) (fun q => absurd q (by decide)) (fun _ => ?_)
  refine lv_iconst (v := 1) hx hb dL_law_557 (by decide) ?_
  refine lv_goto (tgt := 562) hx hb dL_law_558 (by decide) ?_
  refine va_forget (fun q hq => hS.2.2 q hq) ?_
  exact lw_ret hx hb hr hlocks dL_law_562
set_option maxHeartbeats 4000000 in
set_option maxRecDepth 100000 in
theorem zT1 {p : Program} {l : Launch} {e : Env} {s : State} {m : MethodId} {below : List Frame} {meth : Method} {c : Code} {b L : Nat} {xs : Nat → Int32} {G : zG} {ad : Nat → Nat} {na : Nat → Nat → Nat} {ma : Nat → Nat} {mm : Nat} (hL : L ≤ 260) (C0 : lw_At p s m meth c b L xs) (Fx : zFx G ad na ma mm s) {n cyc : Nat} (hn9 : n ≤ 9) (hn1 : 1 ≤ n) (hcy : 2 ≤ cyc ∧ cyc ≤ 8) {t : Nat} (ht : t ≤ 24) {S : zSg} {f : Nat → Int32} {gv bn tt : Int32} (hLI : zLI n cyc t S f gv bn tt) {H : Heap} {locs : List Loc} {ls : Array Slot} (hW : zLW G ad na ma mm S f H) (hS : va_S (zLa s) s.heap H locs) (hl : lv_has ls 15 [(0, .ref b), (1, .ref (ma 0)), (2, .ref mm), (3, .int (nI n)), (4, .int (nI cyc)), (5, .int gv), (6, .int bn), (7, .int tt), (8, .int (nI t))]) : W p l e room_1 s m #[Value.ref b] below meth c H locs 600000 7302250 (lw_Z below #[Value.ref b] s) (F0 m 481 ls []) := by
  obtain ⟨hx, hb, hr, hml, hown, hts0, hX0, hbl, hlocks, hgv⟩ := id C0
  obtain ⟨hK, hd, hmm, hA, hT⟩ := id Fx
  have hts : ∀ w ∈ wsL_law, w.before #[Value.ref b] s = true := fun w hw => hts0 w (wsL_law_in w hw)
  have CF : CallFix p m c cL_law 15 s #[Value.ref b] wsL_law RL := ⟨hx, hb, hml, hown, hts⟩
  have hX : va_X b L xs s s.heap ∧ b < s.heap.size := ⟨hX0, hbl⟩
  have hbA : ¬ zLa s b := Nat.not_le.mpr hbl
  have hbW : ¬ zAw ad na ma mm b := fun q => hbA (hA b q)
  have hO := hLI.1
  have hn := hLI.2.1
  have hl : lv_has ls 15 [(0, .ref b), (1, .ref (ma 0)), (2, .ref mm), (3, .int (nI n)), (4, .int (nI cyc)), (5, .int gv), (6, .int bn), (7, .int tt), (8, .int (nI t))] := hl
  refine lv_aload_n hx hb dL_law_481 rfl (lv_at hl 1 rfl) ?_
  refine z_vi (As := []) (rest := []) (P2 := zLW G ad na ma mm S f) (r := S.1.2.2 11 10) CF (z_lw hmm f (s_X4_roundNumber l G ad na ma hd S hO)) (cwV 0 hts gL_law_X4_roundNumber rfl rfl rfl (by decide +kernel) ⟨Nat.le_of_ble_eq_true rfl, Nat.le_of_ble_eq_true rfl⟩) (zCP.rcv hK hW.1) hW hK hS (fun q _ h => hA q h) hA hl.1 rfl rfl (Nat.le_of_ble_eq_true rfl) dL_law_482 ⟨Nat.le_of_ble_eq_true rfl, Nat.le_of_ble_eq_true rfl⟩ (fun H locs hW hS _ => ?_)
  refine lv_istore (lv' := [(8, .int (S.1.2.2 11 10)), (0, .ref b), (1, .ref (ma 0)), (2, .ref mm), (3, .int (nI n)), (4, .int (nI cyc)), (5, .int gv), (6, .int bn), (7, .int tt)]) hx hb dL_law_485 hl (by decide) rfl (fun ls hl => ?_)
  refine lv_aload_n hx hb dL_law_487 rfl (lv_at hl 2 rfl) ?_
  refine z_vi (As := []) (rest := []) (P2 := zLW G ad na ma mm S f) (r := S.1.2.2 11 14) CF (z_lw hmm f (s_X4_energyPaid l G ad na ma hd S hO)) (cwV 0 hts gL_law_X4_energyPaid rfl rfl rfl (by decide +kernel) ⟨Nat.le_of_ble_eq_true rfl, Nat.le_of_ble_eq_true rfl⟩) (zCP.rcv hK hW.1) hW hK hS (fun q _ h => hA q h) hA hl.1 rfl rfl (Nat.le_of_ble_eq_true rfl) dL_law_488 ⟨Nat.le_of_ble_eq_true rfl, Nat.le_of_ble_eq_true rfl⟩ (fun H locs hW hS _ => ?_)
  refine lv_istore (lv' := [(9, .int (S.1.2.2 11 14)), (8, .int (S.1.2.2 11 10)), (0, .ref b), (1, .ref (ma 0)), (2, .ref mm), (3, .int (nI n)), (4, .int (nI cyc)), (5, .int gv), (6, .int bn), (7, .int tt)]) hx hb dL_law_491 hl (by decide) rfl (fun ls hl => ?_)
  refine lv_aload_n hx hb dL_law_493 rfl (lv_at hl 3 rfl) ?_
  refine lv_iconst (v := 3) hx hb dL_law_494 (by decide) ?_
  refine z_vi (As := [.int 3]) (rest := []) (P2 := zLW G ad na ma mm (zRnS S 3) f) (r := zRnR S 3) CF (z_lw hmm f (s_X4_run l G ad na ma hd S hO 3 (by decide) (by decide))) (cwV 1 hts gL_law_X4_run rfl rfl rfl (by decide +kernel) ⟨Nat.le_of_ble_eq_true rfl, Nat.le_of_ble_eq_true rfl⟩) (zCP.rcv hK hW.1) hW hK hS (fun q _ h => hA q h) hA hl.1 rfl rfl (Nat.le_of_ble_eq_true rfl) dL_law_495 ⟨Nat.le_of_ble_eq_true rfl, Nat.le_of_ble_eq_true rfl⟩ (fun H locs hW hS _ => ?_)
  have hO3 := zRn_ok hO 3
  by_cases hca : zCa S.1.1 S.1.2.2 = 0
  · skip
    refine z_top (x2 := -2) (if_pos hca) ?_
    have eS : (zRnS S 3).1 = S.1 := by unfold zRnS; rw [if_pos hca]
    generalize zRnS S 3 = S3 at hW hO3 eS
    refine lv_if_le (tgt := 505) hx hb dL_law_498 (by decide) (fun _ => ?_) (fun q => absurd (by decide) q)
    refine lv_iconst (v := 0) hx hb dL_law_505 (by decide) ?_
    refine lv_istore (lv' := [(10, .int 0), (9, .int (S.1.2.2 11 14)), (8, .int (S.1.2.2 11 10)), (0, .ref b), (1, .ref (ma 0)), (2, .ref mm), (3, .int (nI n)), (4, .int (nI cyc)), (5, .int gv), (6, .int bn), (7, .int tt)]) hx hb dL_law_506 hl (by decide) rfl (fun ls hl => ?_)
    refine lv_iload hx hb dL_law_508 (lv_at hl 0 rfl) ?_
    refine lv_if_eq (tgt := 520) hx hb dL_law_510 (by decide) (fun _ => ?_) (fun q => absurd (by decide) q)
    exact zT2 hL C0 Fx hn9 hn1 hcy ht hLI hO3 eS hW hS (lv_sub hl [3, 4, 5, 6, 7, 8, 2, 1] rfl)
  · skip
    have hq : 1 ≤ (zPf S.1.1 S.1.2.1 3 S.1.2.2).1 ∧ (zPf S.1.1 S.1.2.1 3 S.1.2.2).1 ≤ 3 := zPf_n (g := S.1.2.1) (zCa_p hO.1.1 hca) 2
    refine z_top (x2 := nI ((zPf S.1.1 S.1.2.1 3 S.1.2.2).1)) (if_neg hca) ?_
    have eS : zRnS S 3 = zPu S (S.1.1, S.1.2.1, (zPf S.1.1 S.1.2.1 3 S.1.2.2).2) := if_neg hca
    rw [eS] at hW hO3
    refine lv_if_le (tgt := 505) hx hb dL_law_498 (by decide) (fun q => absurd q (nI_nle (by have hq := hq; omega) (by have hq := hq; omega))) (fun _ => ?_)
    refine lv_iconst (v := 1) hx hb dL_law_501 (by decide) ?_
    refine lv_goto (tgt := 506) hx hb dL_law_502 (by decide) ?_
    refine lv_istore (lv' := [(10, .int 1), (9, .int (S.1.2.2 11 14)), (8, .int (S.1.2.2 11 10)), (0, .ref b), (1, .ref (ma 0)), (2, .ref mm), (3, .int (nI n)), (4, .int (nI cyc)), (5, .int gv), (6, .int bn), (7, .int tt)]) hx hb dL_law_506 hl (by decide) rfl (fun ls hl => ?_)
    refine lv_iload hx hb dL_law_508 (lv_at hl 0 rfl) ?_
    refine lv_if_eq (tgt := 520) hx hb dL_law_510 (by decide) (fun q => absurd q (by decide)) (fun _ => ?_)
    have hO0 := hO
    have hO := hO3
    have hdep : ¬ (zPu S (S.1.1, S.1.2.1, (zPf S.1.1 S.1.2.1 3 S.1.2.2).2)).2.1 = 0 := by show ¬ zKd S.2.1 + 1 = 0; omega
    refine lv_aload_n hx hb dL_law_513 rfl (lv_at hl 4 rfl) ?_
    refine z_vi (As := []) (rest := []) (P2 := zLW G ad na ma mm (zUnS (zPu S (S.1.1, S.1.2.1, (zPf S.1.1 S.1.2.1 3 S.1.2.2).2))) f) (r := nI ((zPu S (S.1.1, S.1.2.1, (zPf S.1.1 S.1.2.1 3 S.1.2.2).2)).2.1 - 1)) CF (z_lw hmm f (s_X4_undo l G ad na ma hd (zPu S (S.1.1, S.1.2.1, (zPf S.1.1 S.1.2.1 3 S.1.2.2).2)) hO hdep)) (cwV 0 hts gL_law_X4_undo rfl rfl rfl (by decide +kernel) ⟨Nat.le_of_ble_eq_true rfl, Nat.le_of_ble_eq_true rfl⟩) (zCP.rcv hK hW.1) hW hK hS (fun q _ h => hA q h) hA hl.1 rfl rfl (Nat.le_of_ble_eq_true rfl) dL_law_514 ⟨Nat.le_of_ble_eq_true rfl, Nat.le_of_ble_eq_true rfl⟩ (fun H locs hW hS _ => ?_)
    have eS2 := zUn_Pu S (S.1.1, S.1.2.1, (zPf S.1.1 S.1.2.1 3 S.1.2.2).2)
    have hO4 := zUn_ok hO3 hdep
    have hk6 := zKd_lt hO0.2.1
    refine lv_if_lt (tgt := 561) hx hb dL_law_517 (by decide) (fun q => absurd q (nI_pos (by show zKd S.2.1 + 1 - 1 < _; omega))) (fun _ => ?_)
    exact zT2 hL C0 Fx hn9 hn1 hcy ht hLI hO4 eS2 hW hS (lv_sub hl [3, 4, 5, 6, 7, 8, 2, 1] rfl)
set_option maxHeartbeats 4000000 in
set_option maxRecDepth 100000 in
theorem zLoop {p : Program} {l : Launch} {e : Env} {s : State} {m : MethodId} {below : List Frame} {meth : Method} {c : Code} {b L : Nat} {xs : Nat → Int32} {G : zG} {ad : Nat → Nat} {na : Nat → Nat → Nat} {ma : Nat → Nat} {mm : Nat} (hL : L ≤ 260) (C0 : lw_At p s m meth c b L xs) (Fx : zFx G ad na ma mm s) {n cyc : Nat} (hn9 : n ≤ 9) (hn1 : 1 ≤ n) (hcy : 2 ≤ cyc ∧ cyc ≤ 8) {f : Nat → Int32} : ∀ (fu t : Nat), t ≤ 24 → 24 < t + fu → ∀ (S : zSg) (gv bn tt : Int32) (H : Heap) (locs : List Loc) (ls : Array Slot), zLI n cyc t S f gv bn tt → zLW G ad na ma mm S f H → va_S (zLa s) s.heap H locs → lv_has ls 15 [(0, .ref b), (1, .ref (ma 0)), (2, .ref mm), (3, .int (nI n)), (4, .int (nI cyc)), (5, .int gv), (6, .int bn), (7, .int tt), (8, .int (nI t))] → W p l e room_1 s m #[Value.ref b] below meth c H locs 600000 7302250 (lw_Z below #[Value.ref b] s) (F0 m 118 ls []) := by
  obtain ⟨hx, hb, hr, hml, hown, hts0, hX0, hbl, hlocks, hgv⟩ := id C0
  obtain ⟨hK, hd, hmm, hA, hT⟩ := id Fx
  have hts : ∀ w ∈ wsL_law, w.before #[Value.ref b] s = true := fun w hw => hts0 w (wsL_law_in w hw)
  have CF : CallFix p m c cL_law 15 s #[Value.ref b] wsL_law RL := ⟨hx, hb, hml, hown, hts⟩
  have hX : va_X b L xs s s.heap ∧ b < s.heap.size := ⟨hX0, hbl⟩
  have hbA : ¬ zLa s b := Nat.not_le.mpr hbl
  have hbW : ¬ zAw ad na ma mm b := fun q => hbA (hA b q)
  intro fu
  induction fu with
  | zero => intro t h1 h2; exact absurd h2 (by omega)
  | succ fu ih =>
    intro t ht1 ht2 S gv bn tt H locs ls hLI hW hS hl
    have hO := hLI.1
    have hn := hLI.2.1
    have hl : lv_has ls 15 [(0, .ref b), (1, .ref (ma 0)), (2, .ref mm), (3, .int (nI n)), (4, .int (nI cyc)), (5, .int gv), (6, .int bn), (7, .int tt), (8, .int (nI t))] := hl
    refine lv_iload hx hb dL_law_118 (lv_at hl 8 rfl) ?_
    refine lv_bipush (v := 24) hx hb dL_law_120 (by decide) ?_
    refine lv_icmp_ge (tgt := 481) hx hb dL_law_122 (by decide) (fun c_1 => ?_) (fun c_2 => ?_)
    · skip
      have c_1 := (z_leI (a := 24) (b := t) (by omega) (by omega)).mp c_1
      exact zT1 hL C0 Fx hn9 hn1 hcy (by omega) hLI hW hS (lv_sub hl [0, 1, 2, 3, 4, 5, 6, 7, 8] rfl)
    · skip
      have c_2 := (not_congr (z_leI (a := 24) (b := t) (by omega) (by omega))).mp c_2
      refine lv_aload_n hx hb dL_law_125 rfl (lv_at hl 1 rfl) ?_
      refine z_vi (As := []) (rest := []) (P2 := zLW G ad na ma mm S f) (r := zCa S.1.1 S.1.2.2) CF (z_lw hmm f (s_X4_aliveCount l G ad na ma hd S hO)) (cwV 0 hts gL_law_X4_aliveCount rfl rfl rfl (by decide +kernel) ⟨Nat.le_of_ble_eq_true rfl, Nat.le_of_ble_eq_true rfl⟩) (zCP.rcv hK hW.1) hW hK hS (fun q _ h => hA q h) hA hl.1 rfl rfl (Nat.le_of_ble_eq_true rfl) dL_law_126 ⟨Nat.le_of_ble_eq_true rfl, Nat.le_of_ble_eq_true rfl⟩ (fun H locs hW hS _ => ?_)
      refine z_top (x2 := zCa n S.1.2.2) (by rw [hn]) ?_
      refine lv_if_le (tgt := 481) hx hb dL_law_129 (by decide) (fun c_3 => ?_) (fun c_4 => ?_)
      · skip
        have c_3 := Int32.not_lt.mpr c_3
        exact zT1 hL C0 Fx hn9 hn1 hcy (by omega) hLI hW hS (lv_sub hl [0, 1, 2, 3, 4, 5, 6, 7, 8] rfl)
      · skip
        have c_4 := Int32.not_le.mp c_4
        refine lv_aload_n hx hb dL_law_132 rfl (lv_at hl 1 rfl) ?_
        refine z_vi (As := []) (rest := []) (P2 := zLW G ad na ma mm S f) (r := S.1.2.2 11 10) CF (z_lw hmm f (s_X4_roundNumber l G ad na ma hd S hO)) (cwV 0 hts gL_law_X4_roundNumber rfl rfl rfl (by decide +kernel) ⟨Nat.le_of_ble_eq_true rfl, Nat.le_of_ble_eq_true rfl⟩) (zCP.rcv hK hW.1) hW hK hS (fun q _ h => hA q h) hA hl.1 rfl rfl (Nat.le_of_ble_eq_true rfl) dL_law_133 ⟨Nat.le_of_ble_eq_true rfl, Nat.le_of_ble_eq_true rfl⟩ (fun H locs hW hS _ => ?_)
        refine lv_iload hx hb dL_law_136 (lv_at hl 4 rfl) ?_
        refine lv_irem hx hb dL_law_138 (nI_ne0 (by omega) (by omega)) ?_
        refine z_top (x2 := zPh S.1.2.1 S.1.2.2) ((by unfold zPh; rw [hLI.2.2.2.1])) ?_
        refine lv_istore (lv' := [(9, .int (zPh S.1.2.1 S.1.2.2)), (0, .ref b), (1, .ref (ma 0)), (2, .ref mm), (3, .int (nI n)), (4, .int (nI cyc)), (5, .int gv), (6, .int bn), (7, .int tt), (8, .int (nI t))]) hx hb dL_law_139 hl (by decide) rfl (fun ls hl => ?_)
        refine lv_iload hx hb dL_law_141 (lv_at hl 0 rfl) ?_
        refine lv_if_ne (tgt := 150) hx hb dL_law_143 (by decide) (fun c_5 => ?_) (fun c_6 => ?_)
        · skip
          refine lv_iload hx hb dL_law_150 (lv_at hl 7 rfl) ?_
          refine lv_istore (lv' := [(6, .int bn), (9, .int (zPh S.1.2.1 S.1.2.2)), (0, .ref b), (1, .ref (ma 0)), (2, .ref mm), (3, .int (nI n)), (4, .int (nI cyc)), (5, .int gv), (7, .int tt), (8, .int (nI t))]) hx hb dL_law_152 hl (by decide) rfl (fun ls hl => ?_)
          have hbn : ∀ i, i < n → bt bn i = true → ¬ (S.1.2.2 4 i = 1 ∨ zPh S.1.2.1 S.1.2.2 = 0) := fun i hi q z => z.elim (hLI.2.2.2.2.2.2.2.1 i hi q) c_5
          refine zB1 hL C0 Fx hn9 hn1 hcy (by omega) hLI c_4 hbn hW hS (lv_sub hl [2, 3, 4, 5, 6, 7, 0, 8, 9, 1] rfl) (fun MA MC H locs ls mA mC hW hS hl => ?_)
          refine zB2 hL C0 Fx hn9 hn1 hcy (by omega) hLI c_4 hbn mA mC hW hS hl (fun S2 bn2 tt2 H locs ls hLI hW hS hl => ?_)
          exact zB3 hL C0 Fx hn9 hn1 hcy (by omega) hLI hW hS hl (fun S2 gv2 bn2 tt2 H locs ls hLI hW hS hl => ih (t + 1) (by omega) (by omega) S2 gv2 bn2 tt2 H locs ls hLI hW hS hl)
        · skip
          refine lv_iconst (v := 0) hx hb dL_law_146 (by decide) ?_
          refine lv_goto (tgt := 152) hx hb dL_law_147 (by decide) ?_
          refine lv_istore (lv' := [(6, .int 0), (9, .int (zPh S.1.2.1 S.1.2.2)), (0, .ref b), (1, .ref (ma 0)), (2, .ref mm), (3, .int (nI n)), (4, .int (nI cyc)), (5, .int gv), (7, .int tt), (8, .int (nI t))]) hx hb dL_law_152 hl (by decide) rfl (fun ls hl => ?_)
          have hbn : ∀ i, i < n → bt 0 i = true → ¬ (S.1.2.2 4 i = 1 ∨ zPh S.1.2.1 S.1.2.2 = 0) := fun i _ q => absurd (b_0 i ▸ q) (by decide)
          refine zB1 hL C0 Fx hn9 hn1 hcy (by omega) hLI c_4 hbn hW hS (lv_sub hl [2, 3, 4, 5, 6, 7, 0, 8, 9, 1] rfl) (fun MA MC H locs ls mA mC hW hS hl => ?_)
          refine zB2 hL C0 Fx hn9 hn1 hcy (by omega) hLI c_4 hbn mA mC hW hS hl (fun S2 bn2 tt2 H locs ls hLI hW hS hl => ?_)
          exact zB3 hL C0 Fx hn9 hn1 hcy (by omega) hLI hW hS hl (fun S2 gv2 bn2 tt2 H locs ls hLI hW hS hl => ih (t + 1) (by omega) (by omega) S2 gv2 bn2 tt2 H locs ls hLI hW hS hl)
