/-! ===== the law's loop ===== -/
theorem zL4 {L i : Nat} (hL : L ≤ 2048) (hi : i ≤ L) (h : ¬ nI L - 4 < nI i) : i + 4 ≤ L := by
  rcases Nat.lt_or_ge L 4 with q | q
  · exfalso
    apply h
    have c : L = 0 ∨ L = 1 ∨ L = 2 ∨ L = 3 := by omega
    rcases c with rfl | rfl | rfl | rfl
    · have : i = 0 := by omega
      subst this; decide
    · have : i = 0 ∨ i = 1 := by omega
      rcases this with rfl | rfl <;> decide
    · have : i = 0 ∨ i = 1 ∨ i = 2 := by omega
      rcases this with rfl | rfl | rfl <;> decide
    · have : i = 0 ∨ i = 1 ∨ i = 2 ∨ i = 3 := by omega
      rcases this with rfl | rfl | rfl | rfl <;> decide
  · obtain ⟨k, rfl⟩ : ∃ k, L = k + 4 := ⟨L - 4, by omega⟩
    rcases Nat.lt_or_ge k i with z | z
    · exfalso
      apply h
      have e : nI (k + 4) - 4 = nI k := by
        rw [← nI_add k 4, show nI 4 = (4 : Int32) by decide]
        exact Int32.add_sub_cancel _ _
      rw [e]
      exact nI_lt z (by omega)
    · omega
set_option maxHeartbeats 4000000 in
set_option maxRecDepth 100000 in
theorem zLoop {p : Program} {l : Launch} {e : Env} {s : State} {m : MethodId} {below : List Frame} {meth : Method} {c : Code} {b L : Nat} {xs : Nat → Int32} {G : zG} {ad : Nat → Nat} {na : Nat → Nat → Nat} {ma am : Nat → Nat} {Ar : Nat → Prop} (C0 : lw_At p s m meth c b L xs) (hL : L ≤ 2048) (F : zFx G ad na ma am Ar s) :
    ∀ (n i : Nat), i ≤ L → L + 1 ≤ i + n → ∀ (S : zSg) (H : Heap) (locs : List Loc) (ls : Array Slot), zOk S → zCP G ad na ma S H → zRP G am S H → va_S (zLa s) s.heap H locs → lv_has ls 4 [(0, .ref b), (3, .int (nI i)), (1, .ref (ma 0)), (2, .ref (am 0))] → W p l e room_1 s m #[Value.ref b] below meth c H locs 600000 7302250 (lw_Z below #[Value.ref b] s) (F0 m 18 ls []) := by
  obtain ⟨hx, hb, hr, hml, hown, hts, hX, hbl, hlocks, hgv⟩ := id C0
  have hbA : ¬ zLa s b := Nat.not_le.mpr hbl
  intro n
  induction n with
  | zero =>
    intro i h1 h2
    exact absurd h2 (by omega)
  | succ n ih =>
    intro i hi0 hin S H locs ls hO hC hR hS hl
    refine lv_iload_n hx hb dL_law_18 rfl (lv_at hl 1 rfl) ?_
    refine lv_aload_n hx hb dL_law_19 rfl (lv_at hl 0 rfl) ?_
    refine va_slen hx hb hX hbl hbA hS dL_law_20 ?_
    refine lv_iconst (v := 4) hx hb dL_law_21 (by decide) ?_
    refine lv_isub hx hb dL_law_22 ?_
    refine lv_icmp_gt (tgt := 763) hx hb dL_law_23 (by decide) (fun _ => ?_) (fun hc => ?_)
    · refine lv_iconst (v := 1) hx hb dL_law_763 (by decide) ?_
      refine va_forget (fun q hq => hS.2.2 q hq) ?_
      exact lw_ret hx hb hr hlocks dL_law_764
    have hi : i + 4 ≤ L := zL4 hL hi0 hc
    have kk : ∀ (S2 : zSg) (H : Heap) (locs : List Loc), zOk S2 → zCP G ad na ma S2 H → zRP G am S2 H → va_S (zLa s) s.heap H locs → W p l e room_1 s m #[Value.ref b] below meth c H locs 600000 7302250 (lw_Z below #[Value.ref b] s) (F0 m 757 ls []) := by
      intro S2 H2 locs2 hO2 hC2 hR2 hS2
      refine lv_iinc (v := nI (i + 4)) (lv' := [(3, .int (nI (i + 4))), (0, .ref b), (1, .ref (ma 0)), (2, .ref (am 0))]) hx hb dL_law_757 hl (k := 1) rfl ?_ (by decide) rfl (fun ls hl => ?_)
      · rw [show Int32.ofInt 4 = nI 4 by decide, nI_add]
      refine lv_goto (tgt := 18) hx hb dL_law_760 (by decide) ?_
      exact ih (i + 4) hi (by omega) S2 H2 locs2 ls hO2 hC2 hR2 hS2 (lv_sub hl [1, 0, 2, 3] rfl)
    refine lv_aload_n hx hb dL_law_26 rfl (lv_at hl 0 rfl) ?_
    refine lv_iload_n hx hb dL_law_27 rfl (lv_at hl 1 rfl) ?_
    refine va_sld hx hb hX hbl hbA hS (vp_in_nI (by omega) (by omega)) dL_law_28 ?_
    refine lv_bipush (v := 31) hx hb dL_law_29 (by decide) ?_
    refine lv_iand hx hb dL_law_31 ?_
    generalize xs (nI i).toNatClampNeg &&& 31 = v
    have cs : (v.toInt < 0 ∨ 26 < v.toInt) ∨ v.toInt = 0 ∨ v.toInt = 1 ∨ v.toInt = 2 ∨ v.toInt = 3 ∨ v.toInt = 4 ∨ v.toInt = 5 ∨ v.toInt = 6 ∨ v.toInt = 7 ∨ v.toInt = 8 ∨ v.toInt = 9 ∨ v.toInt = 10 ∨ v.toInt = 11 ∨ v.toInt = 12 ∨ v.toInt = 13 ∨ v.toInt = 14 ∨ v.toInt = 15 ∨ v.toInt = 16 ∨ v.toInt = 17 ∨ v.toInt = 18 ∨ v.toInt = 19 ∨ v.toInt = 20 ∨ v.toInt = 21 ∨ v.toInt = 22 ∨ v.toInt = 23 ∨ v.toInt = 24 ∨ v.toInt = 25 ∨ v.toInt = 26 := by
      generalize v.toInt = z
      omega
    rcases cs with ev | ev | ev | ev | ev | ev | ev | ev | ev | ev | ev | ev | ev | ev | ev | ev | ev | ev | ev | ev | ev | ev | ev | ev | ev | ev | ev | ev
    · exact lv_tableOut (tgt := 757) hx hb dL_law_32 ev (by decide) (kk S H locs hO hC hR hS)
    · exact lv_tableIn (off := 124) (tgt := 156) hx hb dL_law_32 (by omega) (by omega) (by rw [ev]; rfl) (by decide) (zArm_addSensor C0 hL F hi hl hO hC hR hS kk)
    · exact lv_tableIn (off := 167) (tgt := 199) hx hb dL_law_32 (by omega) (by omega) (by rw [ev]; rfl) (by decide) (zArm_moveBase C0 hL F hi hl hO hC hR hS kk)
    · exact lv_tableIn (off := 200) (tgt := 232) hx hb dL_law_32 (by omega) (by omega) (by rw [ev]; rfl) (by decide) (zArm_setSetting C0 hL F hi hl hO hC hR hS kk)
    · exact lv_tableIn (off := 233) (tgt := 265) hx hb dL_law_32 (by omega) (by omega) (by rw [ev]; rfl) (by decide) (zArm_setGenerator C0 hL F hi hl hO hC hR hS kk)
    · exact lv_tableIn (off := 256) (tgt := 288) hx hb dL_law_32 (by omega) (by omega) (by rw [ev]; rfl) (by decide) (zArm_charge C0 hL F hi hl hO hC hR hS kk)
    · exact lv_tableIn (off := 289) (tgt := 321) hx hb dL_law_32 (by omega) (by omega) (by rw [ev]; rfl) (by decide) (zArm_run C0 hL F hi hl hO hC hR hS kk)
    · exact lv_tableIn (off := 312) (tgt := 344) hx hb dL_law_32 (by omega) (by omega) (by rw [ev]; rfl) (by decide) (zArm_roundNumber C0 hL F hi hl hO hC hR hS kk)
    · exact lv_tableIn (off := 325) (tgt := 357) hx hb dL_law_32 (by omega) (by omega) (by rw [ev]; rfl) (by decide) (zArm_sensorCount C0 hL F hi hl hO hC hR hS kk)
    · exact lv_tableIn (off := 338) (tgt := 370) hx hb dL_law_32 (by omega) (by omega) (by rw [ev]; rfl) (by decide) (zArm_aliveCount C0 hL F hi hl hO hC hR hS kk)
    · exact lv_tableIn (off := 351) (tgt := 383) hx hb dL_law_32 (by omega) (by omega) (by rw [ev]; rfl) (by decide) (zArm_isAlive C0 hL F hi hl hO hC hR hS kk)
    · exact lv_tableIn (off := 374) (tgt := 406) hx hb dL_law_32 (by omega) (by omega) (by rw [ev]; rfl) (by decide) (zArm_battery C0 hL F hi hl hO hC hR hS kk)
    · exact lv_tableIn (off := 397) (tgt := 429) hx hb dL_law_32 (by omega) (by omega) (by rw [ev]; rfl) (by decide) (zArm_isEligible C0 hL F hi hl hO hC hR hS kk)
    · exact lv_tableIn (off := 420) (tgt := 452) hx hb dL_law_32 (by omega) (by omega) (by rw [ev]; rfl) (by decide) (zArm_headRounds C0 hL F hi hl hO hC hR hS kk)
    · exact lv_tableIn (off := 443) (tgt := 475) hx hb dL_law_32 (by omega) (by omega) (by rw [ev]; rfl) (by decide) (zArm_deathRound C0 hL F hi hl hO hC hR hS kk)
    · exact lv_tableIn (off := 466) (tgt := 498) hx hb dL_law_32 (by omega) (by omega) (by rw [ev]; rfl) (by decide) (zArm_headOf C0 hL F hi hl hO hC hR hS kk)
    · exact lv_tableIn (off := 489) (tgt := 521) hx hb dL_law_32 (by omega) (by omega) (by rw [ev]; rfl) (by decide) (zArm_slotOf C0 hL F hi hl hO hC hR hS kk)
    · exact lv_tableIn (off := 512) (tgt := 544) hx hb dL_law_32 (by omega) (by omega) (by rw [ev]; rfl) (by decide) (zArm_headCount C0 hL F hi hl hO hC hR hS kk)
    · exact lv_tableIn (off := 525) (tgt := 557) hx hb dL_law_32 (by omega) (by omega) (by rw [ev]; rfl) (by decide) (zArm_lastDelivered C0 hL F hi hl hO hC hR hS kk)
    · exact lv_tableIn (off := 538) (tgt := 570) hx hb dL_law_32 (by omega) (by omega) (by rw [ev]; rfl) (by decide) (zArm_deliveredTotal C0 hL F hi hl hO hC hR hS kk)
    · exact lv_tableIn (off := 551) (tgt := 583) hx hb dL_law_32 (by omega) (by omega) (by rw [ev]; rfl) (by decide) (zArm_energyPaid C0 hL F hi hl hO hC hR hS kk)
    · exact lv_tableIn (off := 564) (tgt := 596) hx hb dL_law_32 (by omega) (by omega) (by rw [ev]; rfl) (by decide) (zArm_sendCost C0 hL F hi hl hO hC hR hS kk)
    · exact lv_tableIn (off := 597) (tgt := 629) hx hb dL_law_32 (by omega) (by omega) (by rw [ev]; rfl) (by decide) (zArm_forecastDeath C0 hL F hi hl hO hC hR hS kk)
    · exact lv_tableIn (off := 630) (tgt := 662) hx hb dL_law_32 (by omega) (by omega) (by rw [ev]; rfl) (by decide) (zArm_forecastDelivered C0 hL F hi hl hO hC hR hS kk)
    · exact lv_tableIn (off := 653) (tgt := 685) hx hb dL_law_32 (by omega) (by omega) (by rw [ev]; rfl) (by decide) (zArm_undo C0 hL F hi hl hO hC hR hS kk)
    · exact lv_tableIn (off := 666) (tgt := 698) hx hb dL_law_32 (by omega) (by omega) (by rw [ev]; rfl) (by decide) (zArm_undoDepth C0 hL F hi hl hO hC hR hS kk)
    · exact lv_tableIn (off := 679) (tgt := 711) hx hb dL_law_32 (by omega) (by omega) (by rw [ev]; rfl) (by decide) (zArm_save C0 hL F hi hl hO hC hR hS kk)
    · exact lv_tableIn (off := 702) (tgt := 734) hx hb dL_law_32 (by omega) (by omega) (by rw [ev]; rfl) (by decide) (zArm_restore C0 hL F hi hl hO hC hR hS kk)
